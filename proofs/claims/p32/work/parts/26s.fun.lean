set_option maxHeartbeats 4000000 in
theorem fk_X11_find {l : Launch} {T : Nat → Nat} {cn : Nat} {K N : Nat → Nat} {I0 : cz_I} {R0 : cz_R} {L0 : cz_L} {d : Int} (hW0 : Wf T cn K N I0 R0 d) (gw : Int) {a0 : Nat} (ta0 : T a0 = 14) {y1 : Int64} (pre0 : y1.toInt = (gw)) : ConE l mX11_find [.ref a0, .long y1] cn K N I0 R0 L0 (ca_i (fun v cn' K' N' I' R' L' => cn = cn' ∧ K = K' ∧ N = N' ∧ I0 = I' ∧ R0 = R' ∧ L0 = L' ∧ ((-1) ≤ v.toInt ∧ v.toInt ≤ 12) ∧ (FdM L0 R0 a0 (I0 a0 7).toInt gw v) ∧ True)) := by
  refine ConE.of (by decide +kernel) rfl (Nat.le_of_ble_eq_true rfl) rfl (fun X hX hZ hE => ?_)
  subst hX
  have p1 := pre0
  obtain ⟨a2, d3, ta2⟩ := rf14_30 hW0 ta0
  refine q_iconst dX11_find_0 (by decide) ?_
  intro v4 h5
  refine tr_istore_n dX11_find_1 (by decide) (by decide) ?_
  have lp13 : ∀ (fu : Nat) (ls : Nat → Option Value) (v6 : Int32), ls 0 = some (.ref a0) → ls 1 = some (.long y1) → ls 3 = some (.int v6) → 0 ≤ v6.toInt → v6.toInt ≤ 13 → (∀ k : Nat, (k : Int) < v6.toInt → (L0 a2 k).toInt ≠ gw) → (-v6.toInt + 2147483647).toNat < fu → Tr X mX11_find 2 ls [] cn K N I0 R0 L0 0 0 := by
    intro fu
    induction fu with
    | zero => intros; rename_i hz; exact absurd hz (Nat.not_lt_zero _)
    | succ fu ih13 =>
      intro ls v6 hl7 hl8 hl9 g10 g11 rw12 hm13
      refine tr_iload_n dX11_find_2 hl9 ?_
      refine tr_aload_n dX11_find_3 hl7 ?_
      obtain ⟨v15, c16⟩ : ∃ v, I0 a0 7 = v := ⟨_, rfl⟩
      have b17 := iv14_7 hW0 ta0 c16
      refine q_getI dX11_find_4 fl11_83 (kR14 hW0 ta0) c16 ?_
      refine q_icmp_ge 29 dX11_find_7 (by decide) (fun h18 => ?_) (fun h18 => ?_)
      · skip
        refine q_iconst dX11_find_29 (by decide) ?_
        intro v19 h20
        exact tr_iret hZ dX11_find_30 rfl (by decide) (by decide) ⟨v19, rfl, rfl, rfl, rfl, rfl, rfl, rfl, (by omega), (fun t ht => by obtain rfl := Option.some.inj (d3.symm.trans ht); exact Or.inl ⟨by omega, fun k hk => rw12 k (by rw [c16] at hk; omega)⟩), trivial⟩
      · skip
        refine tr_aload_n dX11_find_10 hl7 ?_
        refine tr_getR dX11_find_11 fl11_73 (kR14 hW0 ta0) d3 ?_
        refine tr_iload_n dX11_find_14 hl9 ?_
        refine q_laldE dX11_find_15 (kR73 hW0 ta2) (ti_in (nR73 hW0 ta2) (by omega) (by omega)) ?_
        intro y21 c22
        refine tr_lload_n dX11_find_16 hl8 ?_
        refine q_lcmpNe 23 dX11_find_17 dX11_find_18 (by decide) (fun h23 => ?_) (fun h23 => ?_)
        · skip
          refine q_iincE dX11_find_23 hl9 (by decide) (by decide) (by intros; omega) ?_
          intro v24 h25
          refine tr_goto 2 dX11_find_26 (by decide) ?_
          exact ih13 _ v24 hl7 hl8 rfl (by omega) (by omega) (fun k hk => by by_cases q : (k : Int) < v6.toInt; exact rw12 k q; rw [show k = v6.toNatClampNeg by have q := ti_nat (i := v6) (by omega); omega, c22]; omega) (by omega)
        · skip
          refine tr_iload_n dX11_find_21 hl9 ?_
          exact tr_iret hZ dX11_find_22 rfl (by decide) (by decide) ⟨v6, rfl, rfl, rfl, rfl, rfl, rfl, rfl, (by omega), (fun t ht => by obtain rfl := Option.some.inj (d3.symm.trans ht); exact Or.inr ⟨by omega, by rw [c16]; omega, (congrArg Int64.toInt c22).trans (by omega)⟩), trivial⟩
  exact lp13 _ _ v4 rfl rfl rfl (by omega) (by omega) (fun k hk => by omega) (Nat.lt_succ_self _)
def wik_X12_readFresh : List Nat := [968, 969, 970, 971, 972, 973, 974]
def wrk_X12_readFresh : List Nat := []
def wlk_X12_readFresh : List Nat := [975]
set_option maxHeartbeats 4000000 in
theorem fk_X12_readFresh {l : Launch} {T : Nat → Nat} {cn : Nat} {K N : Nat → Nat} {I0 : cz_I} {R0 : cz_R} {L0 : cz_L} (hW0 : Wf T cn K N I0 R0 0) (gB : cz_B) (gs : Int) (gQ : Nat → Int) {a0 : Nat} (ta0 : T a0 = 15) (hT : ∀ t, R0 a0 5 = some t → Tx I0 t gB) (hN : ∀ b, R0 a0 4 = some b → NmM I0 R0 L0 b gQ) (pre0 : (I0 a0 9).toInt = (tkM gB gs)) (pre1 : (I0 a0 9).toInt ≤ 4) (pre2 : (I0 a0 10).toInt = (tkS gB gs)) (pre3 : (I0 a0 11).toInt = (tkG gB gs)) (pre4 : (AtW ((tkK gB gs)) ((L0 a0 15).toInt) ((tkW gB gs)))) (pre5 : (AtV ((tkK gB gs)) ((I0 a0 12).toInt) ((tkV gB gs)))) (pre6 : (AtN ((tkK gB gs)) ((I0 a0 8).toInt) ((tkN gB gs)))) (pre7 : (I0 a0 7).toInt = (gB.2)) (pre8 : ∀ b1, R0 a0 4 = some b1 → (I0 b1 3).toInt = (gQ 3)) (pre9 : ∀ b1, R0 a0 4 = some b1 → (I0 b1 4).toInt = (gQ 4)) (nn4 : ∃ b, R0 a0 4 = some b) : ConE l mX12_readFresh [.ref a0] cn K N I0 R0 L0 (ca_l (fun v cn' K' N' I' R' L' => cn = cn' ∧ K = K' ∧ N = N' ∧ R0 = R' ∧ St T cn K N 0 wik_X12_readFresh wrk_X12_readFresh I0 R0 I' R0 ∧ (((v.toInt = (tkW gB gs)) ∧ ((isN gB gs) = 1) ∧ ((tkK gB gs) = 1) ∧ ((nmI gQ 100 (gQ 3) (tkW gB gs)) = -1) ∧ ((nmI gQ 200 (gQ 4) (tkW gB gs)) = -1) ∧ ((I' a0 13).toInt = (I0 a0 13).toInt) ∧ ((I' a0 9).toInt = (tkM gB (tkN gB gs))) ∧ ((I' a0 9).toInt ≤ 4) ∧ ((I' a0 10).toInt = (tkS gB (tkN gB gs))) ∧ ((I' a0 11).toInt = (tkG gB (tkN gB gs))) ∧ ((AtW ((tkK gB (tkN gB gs))) ((L' a0 15).toInt) ((tkW gB (tkN gB gs))))) ∧ ((AtV ((tkK gB (tkN gB gs))) ((I' a0 12).toInt) ((tkV gB (tkN gB gs))))) ∧ ((AtN ((tkK gB (tkN gB gs))) ((I' a0 8).toInt) ((tkN gB (tkN gB gs))))) ∧ LgS T wlk_X12_readFresh L0 L' ∧ True) ∨ (((isN gB gs) ≠ 1) ∧ ((I' a0 9).toInt = 5) ∧ ((I' a0 13).toInt = 1) ∧ ((I' a0 14).toInt = (tkS gB gs)) ∧ True) ∨ (((isN gB gs) = 1) ∧ (((nmI gQ 100 (gQ 3) (tkW gB gs)) ≠ -1 ∨ (nmI gQ 200 (gQ 4) (tkW gB gs)) ≠ -1)) ∧ ((I' a0 9).toInt = 5) ∧ ((I' a0 13).toInt = 3) ∧ ((I' a0 14).toInt = (tkS gB gs)) ∧ True)) ∧ True)) := by
  refine ConE.of (by decide +kernel) rfl (Nat.le_of_ble_eq_true rfl) rfl (fun X hX hZ hE => ?_)
  subst hX
  have hS0 : St T cn K N 0 wik_X12_readFresh wrk_X12_readFresh I0 R0 I0 R0 := St.rf0 hW0
  have hL0 : LgS T wlk_X12_readFresh L0 L0 := LgS.rf0
  obtain ⟨a1, d2⟩ := nn4
  have ta1 : T a1 = 14 := hW0.rsN ta0 rfl d2
  obtain ⟨v3, c4⟩ : ∃ v, I0 a0 9 = v := ⟨_, rfl⟩
  have b5 := iv15_9 hS0.1 ta0 c4
  have p6 := pre0
  rw [c4] at p6
  have p7 := pre1
  rw [c4] at p7
  obtain ⟨v8, c9⟩ : ∃ v, I0 a0 10 = v := ⟨_, rfl⟩
  have b10 := iv15_10 hS0.1 ta0 c9
  have p11 := pre2
  rw [c9] at p11
  obtain ⟨v12, c13⟩ : ∃ v, I0 a0 11 = v := ⟨_, rfl⟩
  have p14 := pre3
  rw [c13] at p14
  obtain ⟨y15, c16⟩ : ∃ v, L0 a0 15 = v := ⟨_, rfl⟩
  have p17 := pre4
  rw [c16] at p17
  obtain ⟨v18, c19⟩ : ∃ v, I0 a0 12 = v := ⟨_, rfl⟩
  have p20 := pre5
  rw [c19] at p20
  obtain ⟨v21, c22⟩ : ∃ v, I0 a0 8 = v := ⟨_, rfl⟩
  have b23 := iv15_8 hS0.1 ta0 c22
  have p24 := pre6
  rw [c22] at p24
  obtain ⟨v25, c26⟩ : ∃ v, I0 a0 7 = v := ⟨_, rfl⟩
  have b27 := iv15_7 hW0 ta0 c26
  have p28 := pre7
  rw [c26] at p28
  obtain ⟨v29, c30⟩ : ∃ v, I0 a1 3 = v := ⟨_, rfl⟩
  have b31 := iv14_3 hW0 ta1 c30
  have p32 := pre8 _ d2
  rw [c30] at p32
  obtain ⟨v33, c34⟩ : ∃ v, I0 a1 4 = v := ⟨_, rfl⟩
  have b35 := iv14_4 hW0 ta1 c34
  have p36 := pre9 _ d2
  rw [c34] at p36
  obtain ⟨v37, c38⟩ : ∃ v, I0 a0 13 = v := ⟨_, rfl⟩
  have hM0 := hN _ d2
  refine tr_aload_n dX12_readFresh_0 rfl ?_
  refine q_callVi hE (M' := mX12_isName) (as := []) dX12_readFresh_1 lk12_197 inX12_isName seX12_isName myX12_isName (by decide) ⟨by decide, by decide⟩ rfl (kR15 hS0.1 ta0) (Nat.le_of_ble_eq_true rfl) rfl rfl (by decide) (by decide) (fk_X12_isName hS0.1 (gB) (gs) ta0 (by (try rw [c4]); first | done | with_reducible assumption | omega) (by (try rw [c16]); first | done | assumption)) ?_
  rintro v44 cn' K' N' I39 R40 L41 ⟨rfl, rfl, rfl, rfl, rfl, rfl, h45, dj46, -⟩
  rcases dj46 with ⟨p47, p48, p49, -⟩ | ⟨p50, p51, -⟩
  · skip
    refine q_if_ne 12 dX12_readFresh_4 (by decide) (fun h52 => ?_) (fun h52 => ?_)
    · skip
      refine tr_aload_n dX12_readFresh_12 rfl ?_
      refine tr_getR dX12_readFresh_13 fl12_188 (kR15 hS0.1 ta0) d2 ?_
      refine tr_aload_n dX12_readFresh_16 rfl ?_
      have p53 := p17 (by omega)
      refine q_getLE dX12_readFresh_17 fl12_118 (kR15 hS0.1 ta0) c16 ?_
      refine q_callVi hE (M' := mX11_find) (as := [_]) dX12_readFresh_20 lk12_201 inX11_find seX11_find myX11_find (by decide) ⟨by decide, by decide⟩ rfl (kR14 hS0.1 ta1) (Nat.le_of_ble_eq_true rfl) rfl rfl (by decide) (by decide) (fk_X11_find hS0.1 ((tkW gB gs)) ta1 (by first | done | with_reducible assumption | omega)) ?_
      rintro v59 cn' K' N' I54 R55 L56 ⟨rfl, rfl, rfl, rfl, rfl, rfl, h60, rp61, -⟩
      obtain ⟨v64, c65⟩ : ∃ v, I0 a1 7 = v := ⟨_, rfl⟩
      have b66 := iv14_7 hW0 ta1 c65
      have p63 := hS0.1.2.2.2.2.1 a0 ta0 _ d2
      rw [c65, c30, c34] at p63
      have fd62 := fd_told hM0 hS0.1 ta1 rp61 (by rw [c65]; omega)
      rw [c65] at fd62
      refine q_iconst dX12_readFresh_23 (by decide) ?_
      intro v67 h68
      refine q_icmp_eq 32 dX12_readFresh_24 (by decide) (fun h69 => ?_) (fun h69 => ?_)
      · skip
        refine tr_aload_n dX12_readFresh_32 rfl ?_
        refine q_getLE dX12_readFresh_33 fl12_118 (kR15 hS0.1 ta0) c16 ?_
        refine tr_lstore_n dX12_readFresh_36 (by decide) (by decide) (by decide) ?_
        refine tr_aload_n dX12_readFresh_37 rfl ?_
        have p70 := p24 (by omega)
        refine q_callVv hE (M' := mX12_goesOn) (as := []) dX12_readFresh_38 lk12_142 inX12_goesOn seX12_goesOn myX12_goesOn (by decide) ⟨by decide, by decide⟩ rfl (kR15 hS0.1 ta0) (Nat.le_of_ble_eq_true rfl) rfl rfl (by decide) (by decide) (fk_X12_goesOn hS0.1 (gB) ((tkN gB gs)) ta0 (TxA.kp hT hS0 ta0 rfl rfl rfl (by decide +kernel) (by decide +kernel)) (by (try rw [c22]); first | done | with_reducible assumption | omega) (by (try rw [c26]); first | done | with_reducible assumption | omega) (by (try rw [c4]); first | done | with_reducible assumption | omega)) ?_
        rintro cn' K' N' I71 R72 L73 ⟨rfl, rfl, rfl, rfl, g74, gl75, p77, p78, p79, p80, p81, p82, p83, -⟩
        have hM84 : NmM I71 R0 L0 a1 gQ := NmM.kpS hM0 g74 hS0.1 ta1 (by decide +kernel) (by decide +kernel)
        have hS85 := hS0.tr g74 (by decide +kernel) (by decide +kernel)
        have c86 : I71 a0 13 = v37 := (g74.cell ta0 (by decide +kernel)).trans c38
        have hL87 := hL0.tr gl75 (by decide +kernel)
        have hM88 : NmM I71 R0 L73 a1 gQ := NmM.kpL hM84 gl75 hS85.1 ta1 (by decide +kernel)
        obtain ⟨v89, c90⟩ : ∃ v, I71 a0 9 = v := ⟨_, rfl⟩
        have b91 := iv15_9 hS85.1 ta0 c90
        rw [c90] at p77
        rw [c90] at p78
        obtain ⟨v92, c93⟩ : ∃ v, I71 a0 10 = v := ⟨_, rfl⟩
        have b94 := iv15_10 hS85.1 ta0 c93
        rw [c93] at p79
        obtain ⟨v95, c96⟩ : ∃ v, I71 a0 11 = v := ⟨_, rfl⟩
        rw [c96] at p80
        obtain ⟨y97, c98⟩ : ∃ v, L73 a0 15 = v := ⟨_, rfl⟩
        rw [c98] at p81
        obtain ⟨v99, c100⟩ : ∃ v, I71 a0 12 = v := ⟨_, rfl⟩
        rw [c100] at p82
        obtain ⟨v101, c102⟩ : ∃ v, I71 a0 8 = v := ⟨_, rfl⟩
        have b103 := iv15_8 hS85.1 ta0 c102
        rw [c102] at p83
        refine tr_lload_n dX12_readFresh_41 rfl ?_
        obtain ⟨v104, c105⟩ : ∃ v, I71 a0 14 = v := ⟨_, rfl⟩
        exact tr_lret hZ dX12_readFresh_42 rfl (by decide) (by decide) ⟨y15, rfl, rfl, rfl, rfl, rfl, hS85, (Or.inl ⟨(by first | done | with_reducible assumption | omega), (by first | done | with_reducible assumption | omega), (by first | done | with_reducible assumption | omega), (by first | done | with_reducible assumption | omega), (by first | done | with_reducible assumption | omega), (by (try rw [c86]); (try rw [c38]); first | done | with_reducible assumption | omega), (by (try rw [c90]); first | done | with_reducible assumption | omega), (by (try rw [c90]); first | done | with_reducible assumption | omega), (by (try rw [c93]); first | done | with_reducible assumption | omega), (by (try rw [c96]); first | done | with_reducible assumption | omega), (by (try rw [c98]); first | done | assumption), (by (try rw [c100]); first | done | assumption), (by (try rw [c102]); first | done | assumption), hL87, trivial⟩), trivial⟩
      · skip
        refine tr_aload_n dX12_readFresh_27 rfl ?_
        refine q_iconst dX12_readFresh_28 (by decide) ?_
        intro v106 h107
        refine q_callVv hE (M' := mX12_flaw) (as := [_]) dX12_readFresh_29 lk12_145 inX12_flaw seX12_flaw myX12_flaw (by decide) ⟨by decide, by decide⟩ rfl (kR15 hS0.1 ta0) (Nat.le_of_ble_eq_true rfl) rfl rfl (by decide) (by decide) (fk_X12_flaw hS0.1  ta0 (by omega) (by (try rw [c4]); first | done | with_reducible assumption | omega)) ?_
        rintro cn' K' N' I108 R109 L110 ⟨rfl, rfl, rfl, rfl, rfl, g111, p114, p115, p116, -⟩
        have hM117 : NmM I108 R0 L0 a1 gQ := NmM.kpS hM0 g111 hS0.1 ta1 (by decide +kernel) (by decide +kernel)
        have hS118 := hS0.tr g111 (by decide +kernel) (by decide +kernel)
        have c119 : I108 a0 10 = v8 := (g111.cell ta0 (by decide +kernel)).trans c9
        have c120 : I108 a0 11 = v12 := (g111.cell ta0 (by decide +kernel)).trans c13
        have c121 : I108 a0 12 = v18 := (g111.cell ta0 (by decide +kernel)).trans c19
        have c122 : I108 a0 8 = v21 := (g111.cell ta0 (by decide +kernel)).trans c22
        obtain ⟨v123, c124⟩ : ∃ v, I108 a0 9 = v := ⟨_, rfl⟩
        have b125 := iv15_9 hS118.1 ta0 c124
        rw [c124] at p114
        obtain ⟨v126, c127⟩ : ∃ v, I108 a0 13 = v := ⟨_, rfl⟩
        rw [c127] at p115
        obtain ⟨v128, c129⟩ : ∃ v, I108 a0 14 = v := ⟨_, rfl⟩
        rw [c129] at p116
        rw [c9] at p116
        refine tr_aload_n dX12_readFresh_32 rfl ?_
        refine q_getLE dX12_readFresh_33 fl12_118 (kR15 hS118.1 ta0) c16 ?_
        refine tr_lstore_n dX12_readFresh_36 (by decide) (by decide) (by decide) ?_
        refine tr_aload_n dX12_readFresh_37 rfl ?_
        refine q_callVv hE (M' := mX12_goesOn) (as := []) dX12_readFresh_38 lk12_142 inX12_goesOn seX12_goesOn myX12_goesOn (by decide) ⟨by decide, by decide⟩ rfl (kR15 hS118.1 ta0) (Nat.le_of_ble_eq_true rfl) rfl rfl (by decide) (by decide) (k_X12_goesOn hS118.1 ta0) ?_
        rintro cn' K' N' I130 R131 L132 ⟨rfl, rfl, rfl, rfl, g133, p135, p136, p137, w138, -⟩
        have hS139 := hS118.tr g133 (by decide +kernel) (by decide +kernel)
        have c140 : I130 a0 13 = v126 := (g133.cell ta0 (by decide +kernel)).trans c127
        have c141 : I130 a0 14 = v128 := (g133.cell ta0 (by decide +kernel)).trans c129
        obtain ⟨v142, c143⟩ : ∃ v, I130 a0 9 = v := ⟨_, rfl⟩
        have b144 := iv15_9 hS139.1 ta0 c143
        rw [c124] at p135
        rw [c143] at p135
        rw [c124] at p136
        rw [c143] at p136
        obtain ⟨v145, c146⟩ : ∃ v, I130 a0 8 = v := ⟨_, rfl⟩
        have b147 := iv15_8 hS139.1 ta0 c146
        rw [c146] at p137
        rw [c122] at p137
        rw [c140] at p137
        rw [c127] at p137
        have ov148 := w138.over (by rw [c124]; omega)
        obtain ⟨v149, c150⟩ : ∃ v, I130 a0 9 = v := ⟨_, rfl⟩
        have b151 := iv15_9 hS139.1 ta0 c150
        obtain ⟨v152, c153⟩ : ∃ v, I130 a0 13 = v := ⟨_, rfl⟩
        obtain ⟨v154, c155⟩ : ∃ v, I130 a0 14 = v := ⟨_, rfl⟩
        (try rw [c150] at ov148)
        (try rw [c153] at ov148)
        (try rw [c155] at ov148)
        (try rw [c124] at ov148)
        (try rw [c127] at ov148)
        (try rw [c129] at ov148)
        refine tr_lload_n dX12_readFresh_41 rfl ?_
        obtain ⟨v156, c157⟩ : ∃ v, I130 a0 10 = v := ⟨_, rfl⟩
        have b158 := iv15_10 hS139.1 ta0 c157
        obtain ⟨v159, c160⟩ : ∃ v, I130 a0 11 = v := ⟨_, rfl⟩
        obtain ⟨y161, c162⟩ : ∃ v, L132 a0 15 = v := ⟨_, rfl⟩
        obtain ⟨v163, c164⟩ : ∃ v, I130 a0 12 = v := ⟨_, rfl⟩
        exact tr_lret hZ dX12_readFresh_42 rfl (by decide) (by decide) ⟨y15, rfl, rfl, rfl, rfl, rfl, hS139, (Or.inr (Or.inr (⟨(by first | done | with_reducible assumption | omega), (by first | done | with_reducible assumption | omega), (by (try rw [c150]); first | done | with_reducible assumption | omega), (by (try rw [c153]); first | done | with_reducible assumption | omega), (by (try rw [c155]); first | done | with_reducible assumption | omega), trivial⟩))), trivial⟩
    · skip
      exfalso; omega
  · skip
    refine q_if_ne 12 dX12_readFresh_4 (by decide) (fun h165 => ?_) (fun h165 => ?_)
    · skip
      exfalso; omega
    · skip
      refine tr_aload_n dX12_readFresh_7 rfl ?_
      refine q_iconst dX12_readFresh_8 (by decide) ?_
      intro v166 h167
      refine q_callVv hE (M' := mX12_flaw) (as := [_]) dX12_readFresh_9 lk12_145 inX12_flaw seX12_flaw myX12_flaw (by decide) ⟨by decide, by decide⟩ rfl (kR15 hS0.1 ta0) (Nat.le_of_ble_eq_true rfl) rfl rfl (by decide) (by decide) (fk_X12_flaw hS0.1  ta0 (by omega) (by (try rw [c4]); first | done | with_reducible assumption | omega)) ?_
      rintro cn' K' N' I168 R169 L170 ⟨rfl, rfl, rfl, rfl, rfl, g171, p174, p175, p176, -⟩
      have hM177 : NmM I168 R0 L0 a1 gQ := NmM.kpS hM0 g171 hS0.1 ta1 (by decide +kernel) (by decide +kernel)
      have hS178 := hS0.tr g171 (by decide +kernel) (by decide +kernel)
      have c179 : I168 a0 10 = v8 := (g171.cell ta0 (by decide +kernel)).trans c9
      have c180 : I168 a0 11 = v12 := (g171.cell ta0 (by decide +kernel)).trans c13
      have c181 : I168 a0 12 = v18 := (g171.cell ta0 (by decide +kernel)).trans c19
      have c182 : I168 a0 8 = v21 := (g171.cell ta0 (by decide +kernel)).trans c22
      obtain ⟨v183, c184⟩ : ∃ v, I168 a0 9 = v := ⟨_, rfl⟩
      have b185 := iv15_9 hS178.1 ta0 c184
      rw [c184] at p174
      obtain ⟨v186, c187⟩ : ∃ v, I168 a0 13 = v := ⟨_, rfl⟩
      rw [c187] at p175
      obtain ⟨v188, c189⟩ : ∃ v, I168 a0 14 = v := ⟨_, rfl⟩
      rw [c189] at p176
      rw [c9] at p176
      refine tr_aload_n dX12_readFresh_12 rfl ?_
      refine tr_getR dX12_readFresh_13 fl12_188 (kR15 hS178.1 ta0) d2 ?_
      refine tr_aload_n dX12_readFresh_16 rfl ?_
      refine q_getLE dX12_readFresh_17 fl12_118 (kR15 hS178.1 ta0) c16 ?_
      refine q_callVi hE (M' := mX11_find) (as := [_]) dX12_readFresh_20 lk12_201 inX11_find seX11_find myX11_find (by decide) ⟨by decide, by decide⟩ rfl (kR14 hS178.1 ta1) (Nat.le_of_ble_eq_true rfl) rfl rfl (by decide) (by decide) (k_X11_find hS178.1 ta1) ?_
      rintro v194 cn' K' N' I190 R191 L192 ⟨rfl, rfl, rfl, rfl, rfl, rfl, h195, -⟩
      refine q_iconst dX12_readFresh_23 (by decide) ?_
      intro v196 h197
      refine q_icmp_eq 32 dX12_readFresh_24 (by decide) (fun h198 => ?_) (fun h198 => ?_)
      · skip
        refine tr_aload_n dX12_readFresh_32 rfl ?_
        refine q_getLE dX12_readFresh_33 fl12_118 (kR15 hS178.1 ta0) c16 ?_
        refine tr_lstore_n dX12_readFresh_36 (by decide) (by decide) (by decide) ?_
        refine tr_aload_n dX12_readFresh_37 rfl ?_
        refine q_callVv hE (M' := mX12_goesOn) (as := []) dX12_readFresh_38 lk12_142 inX12_goesOn seX12_goesOn myX12_goesOn (by decide) ⟨by decide, by decide⟩ rfl (kR15 hS178.1 ta0) (Nat.le_of_ble_eq_true rfl) rfl rfl (by decide) (by decide) (k_X12_goesOn hS178.1 ta0) ?_
        rintro cn' K' N' I199 R200 L201 ⟨rfl, rfl, rfl, rfl, g202, p204, p205, p206, w207, -⟩
        have hS208 := hS178.tr g202 (by decide +kernel) (by decide +kernel)
        have c209 : I199 a0 13 = v186 := (g202.cell ta0 (by decide +kernel)).trans c187
        have c210 : I199 a0 14 = v188 := (g202.cell ta0 (by decide +kernel)).trans c189
        obtain ⟨v211, c212⟩ : ∃ v, I199 a0 9 = v := ⟨_, rfl⟩
        have b213 := iv15_9 hS208.1 ta0 c212
        rw [c184] at p204
        rw [c212] at p204
        rw [c184] at p205
        rw [c212] at p205
        obtain ⟨v214, c215⟩ : ∃ v, I199 a0 8 = v := ⟨_, rfl⟩
        have b216 := iv15_8 hS208.1 ta0 c215
        rw [c215] at p206
        rw [c182] at p206
        rw [c209] at p206
        rw [c187] at p206
        have ov217 := w207.over (by rw [c184]; omega)
        obtain ⟨v218, c219⟩ : ∃ v, I199 a0 9 = v := ⟨_, rfl⟩
        have b220 := iv15_9 hS208.1 ta0 c219
        obtain ⟨v221, c222⟩ : ∃ v, I199 a0 13 = v := ⟨_, rfl⟩
        obtain ⟨v223, c224⟩ : ∃ v, I199 a0 14 = v := ⟨_, rfl⟩
        (try rw [c219] at ov217)
        (try rw [c222] at ov217)
        (try rw [c224] at ov217)
        (try rw [c184] at ov217)
        (try rw [c187] at ov217)
        (try rw [c189] at ov217)
        refine tr_lload_n dX12_readFresh_41 rfl ?_
        obtain ⟨v225, c226⟩ : ∃ v, I199 a0 10 = v := ⟨_, rfl⟩
        have b227 := iv15_10 hS208.1 ta0 c226
        obtain ⟨v228, c229⟩ : ∃ v, I199 a0 11 = v := ⟨_, rfl⟩
        obtain ⟨y230, c231⟩ : ∃ v, L201 a0 15 = v := ⟨_, rfl⟩
        obtain ⟨v232, c233⟩ : ∃ v, I199 a0 12 = v := ⟨_, rfl⟩
        exact tr_lret hZ dX12_readFresh_42 rfl (by decide) (by decide) ⟨y15, rfl, rfl, rfl, rfl, rfl, hS208, (Or.inr (Or.inl ⟨(by first | done | with_reducible assumption | omega), (by (try rw [c219]); first | done | with_reducible assumption | omega), (by (try rw [c222]); first | done | with_reducible assumption | omega), (by (try rw [c224]); first | done | with_reducible assumption | omega), trivial⟩)), trivial⟩
      · skip
        refine tr_aload_n dX12_readFresh_27 rfl ?_
        refine q_iconst dX12_readFresh_28 (by decide) ?_
        intro v234 h235
        refine q_callVv hE (M' := mX12_flaw) (as := [_]) dX12_readFresh_29 lk12_145 inX12_flaw seX12_flaw myX12_flaw (by decide) ⟨by decide, by decide⟩ rfl (kR15 hS178.1 ta0) (Nat.le_of_ble_eq_true rfl) rfl rfl (by decide) (by decide) (k_X12_flaw hS178.1 ta0 (by omega)) ?_
        rintro cn' K' N' I236 R237 L238 ⟨rfl, rfl, rfl, rfl, rfl, g239, p241, p242, w243, -⟩
        have hS244 := hS178.tr g239 (by decide +kernel) (by decide +kernel)
        have c245 : I236 a0 10 = v8 := (g239.cell ta0 (by decide +kernel)).trans c179
        have c246 : I236 a0 11 = v12 := (g239.cell ta0 (by decide +kernel)).trans c180
        have c247 : I236 a0 12 = v18 := (g239.cell ta0 (by decide +kernel)).trans c181
        have c248 : I236 a0 8 = v21 := (g239.cell ta0 (by decide +kernel)).trans c182
        obtain ⟨v249, c250⟩ : ∃ v, I236 a0 9 = v := ⟨_, rfl⟩
        have b251 := iv15_9 hS244.1 ta0 c250
        rw [c250] at p241
        rw [c248] at p242
        rw [c182] at p242
        have ov252 := w243.over (by rw [c184]; omega)
        obtain ⟨v253, c254⟩ : ∃ v, I236 a0 9 = v := ⟨_, rfl⟩
        have b255 := iv15_9 hS244.1 ta0 c254
        obtain ⟨v256, c257⟩ : ∃ v, I236 a0 13 = v := ⟨_, rfl⟩
        obtain ⟨v258, c259⟩ : ∃ v, I236 a0 14 = v := ⟨_, rfl⟩
        (try rw [c254] at ov252)
        (try rw [c257] at ov252)
        (try rw [c259] at ov252)
        (try rw [c184] at ov252)
        (try rw [c187] at ov252)
        (try rw [c189] at ov252)
        refine tr_aload_n dX12_readFresh_32 rfl ?_
        refine q_getLE dX12_readFresh_33 fl12_118 (kR15 hS244.1 ta0) c16 ?_
        refine tr_lstore_n dX12_readFresh_36 (by decide) (by decide) (by decide) ?_
        refine tr_aload_n dX12_readFresh_37 rfl ?_
        refine q_callVv hE (M' := mX12_goesOn) (as := []) dX12_readFresh_38 lk12_142 inX12_goesOn seX12_goesOn myX12_goesOn (by decide) ⟨by decide, by decide⟩ rfl (kR15 hS244.1 ta0) (Nat.le_of_ble_eq_true rfl) rfl rfl (by decide) (by decide) (k_X12_goesOn hS244.1 ta0) ?_
        rintro cn' K' N' I260 R261 L262 ⟨rfl, rfl, rfl, rfl, g263, p265, p266, p267, w268, -⟩
        have hS269 := hS244.tr g263 (by decide +kernel) (by decide +kernel)
        have c270 : I260 a0 13 = v256 := (g263.cell ta0 (by decide +kernel)).trans c257
        have c271 : I260 a0 14 = v258 := (g263.cell ta0 (by decide +kernel)).trans c259
        obtain ⟨v272, c273⟩ : ∃ v, I260 a0 9 = v := ⟨_, rfl⟩
        have b274 := iv15_9 hS269.1 ta0 c273
        rw [c254] at p265
        rw [c273] at p265
        rw [c254] at p266
        rw [c273] at p266
        obtain ⟨v275, c276⟩ : ∃ v, I260 a0 8 = v := ⟨_, rfl⟩
        have b277 := iv15_8 hS269.1 ta0 c276
        rw [c276] at p267
        rw [c248] at p267
        rw [c270] at p267
        rw [c257] at p267
        have ov278 := w268.over (by rw [c254]; omega)
        obtain ⟨v279, c280⟩ : ∃ v, I260 a0 9 = v := ⟨_, rfl⟩
        have b281 := iv15_9 hS269.1 ta0 c280
        obtain ⟨v282, c283⟩ : ∃ v, I260 a0 13 = v := ⟨_, rfl⟩
        obtain ⟨v284, c285⟩ : ∃ v, I260 a0 14 = v := ⟨_, rfl⟩
        (try rw [c280] at ov278)
        (try rw [c283] at ov278)
        (try rw [c285] at ov278)
        (try rw [c254] at ov278)
        (try rw [c257] at ov278)
        (try rw [c259] at ov278)
        refine tr_lload_n dX12_readFresh_41 rfl ?_
        obtain ⟨v286, c287⟩ : ∃ v, I260 a0 10 = v := ⟨_, rfl⟩
        have b288 := iv15_10 hS269.1 ta0 c287
        obtain ⟨v289, c290⟩ : ∃ v, I260 a0 11 = v := ⟨_, rfl⟩
        obtain ⟨y291, c292⟩ : ∃ v, L262 a0 15 = v := ⟨_, rfl⟩
        obtain ⟨v293, c294⟩ : ∃ v, I260 a0 12 = v := ⟨_, rfl⟩
        exact tr_lret hZ dX12_readFresh_42 rfl (by decide) (by decide) ⟨y15, rfl, rfl, rfl, rfl, rfl, hS269, (Or.inr (Or.inl ⟨(by first | done | with_reducible assumption | omega), (by (try rw [c280]); first | done | with_reducible assumption | omega), (by (try rw [c283]); first | done | with_reducible assumption | omega), (by (try rw [c285]); first | done | with_reducible assumption | omega), trivial⟩)), trivial⟩
def wik_X12_names : List Nat := [903, 4799, 4863]
def wrk_X12_names : List Nat := []
def wlk_X12_names : List Nat := [4735]
set_option maxHeartbeats 4000000 in
theorem fk_X12_names {l : Launch} {T : Nat → Nat} {cn : Nat} {K N : Nat → Nat} {I0 : cz_I} {R0 : cz_R} {L0 : cz_L} (hW0 : Wf T cn K N I0 R0 0)  {a0 : Nat} (ta0 : T a0 = 15) {y1 : Int64} {x2 : Int32} {x3 : Int32} (pre0 : ∀ b1, R0 a0 4 = some b1 → (I0 b1 7).toInt ≤ 12) (nn4 : ∃ b, R0 a0 4 = some b) : ConE l mX12_names [.ref a0, .long y1, .int x2, .int x3] cn K N I0 R0 L0 (ca_v (fun cn' K' N' I' R' L' => cn = cn' ∧ K = K' ∧ N = N' ∧ R0 = R' ∧ St T cn K N 1 wik_X12_names wrk_X12_names I0 R0 I' R0 ∧ LgS T wlk_X12_names L0 L' ∧ (∀ b, R0 a0 4 = some b → NaW I0 R0 L0 b y1 x2 x3 I' L') ∧ (∀ dr, R0 a0 4 = some dr → FrO 14 dr T I0 I') ∧ True)) := by
  refine ConE.of (by decide +kernel) rfl (Nat.le_of_ble_eq_true rfl) rfl (fun X hX hZ hE => ?_)
  subst hX
  have hS0 : St T cn K N 0 wik_X12_names wrk_X12_names I0 R0 I0 R0 := St.rf0 hW0
  have hL0 : LgS T wlk_X12_names L0 L0 := LgS.rf0
  obtain ⟨a1, d2⟩ := nn4
  have ta1 : T a1 = 14 := hW0.rsN ta0 rfl d2
  obtain ⟨v3, c4⟩ : ∃ v, I0 a1 7 = v := ⟨_, rfl⟩
  have b5 := iv14_7 hS0.1 ta1 c4
  have p6 := pre0 _ d2
  rw [c4] at p6
  have hO0 : FrO 14 a1 T I0 I0 := FrO.rf
  refine tr_aload_n dX12_names_0 rfl ?_
  refine tr_getR dX12_names_1 fl12_188 (kR15 hS0.1 ta0) d2 ?_
  obtain ⟨a7, d8, ta7⟩ := rf14_30 hW0 ta1
  refine tr_getR dX12_names_4 fl12_205 (kR14 hS0.1 ta1) d8 ?_
  refine tr_aload_n dX12_names_7 rfl ?_
  refine tr_getR dX12_names_8 fl12_188 (kR15 hS0.1 ta0) d2 ?_
  refine q_getI dX12_names_11 fl12_209 (kR14 hS0.1 ta1) c4 ?_
  refine tr_lload_n dX12_names_14 rfl ?_
  refine q_lastE dX12_names_15 (kR73 hS0.1 ta7) (ti_in (nR73 hS0.1 ta7) (by omega) (by omega)) hL0 ta7 (by rfl) ?_
  intro L9 hL10 e11 f12
  refine tr_aload_n dX12_names_16 rfl ?_
  refine tr_getR dX12_names_17 fl12_188 (kR15 hS0.1 ta0) d2 ?_
  obtain ⟨a13, d14, ta13⟩ := rf14_31 hW0 ta1
  refine tr_getR dX12_names_20 fl12_212 (kR14 hS0.1 ta1) d14 ?_
  refine tr_aload_n dX12_names_23 rfl ?_
  refine tr_getR dX12_names_24 fl12_188 (kR15 hS0.1 ta0) d2 ?_
  refine q_getI dX12_names_27 fl12_209 (kR14 hS0.1 ta1) c4 ?_
  refine tr_iload_n dX12_names_30 rfl ?_
  refine q_iast dX12_names_31 (kR74 hS0.1 ta13) (ti_in (nR74 hS0.1 ta13) (by omega) (by omega)) hS0 ta13 (iokF rfl) rfl (by rfl) ?_
  intro I15 hS16 e18 f17
  have c19 : I15 a1 7 = v3 := (f17 _ _ (fun q => by have z := ta1; rw [q.1, ta13] at z; exact absurd z (by decide))).trans c4
  have hO20 : FrO 14 a1 T I0 I15 := hO0.put f17 ta13 (Or.inl (by decide))
  refine tr_aload_n dX12_names_32 rfl ?_
  refine tr_getR dX12_names_33 fl12_188 (kR15 hS16.1 ta0) d2 ?_
  obtain ⟨a21, d22, ta21⟩ := rf14_32 hW0 ta1
  refine tr_getR dX12_names_36 fl12_215 (kR14 hS16.1 ta1) d22 ?_
  refine tr_aload_n dX12_names_39 rfl ?_
  refine tr_getR dX12_names_40 fl12_188 (kR15 hS16.1 ta0) d2 ?_
  refine q_getI dX12_names_43 fl12_209 (kR14 hS16.1 ta1) c19 ?_
  refine tr_iload dX12_names_46 rfl ?_
  refine q_iast dX12_names_48 (kR75 hS16.1 ta21) (ti_in (nR75 hS16.1 ta21) (by omega) (by omega)) hS16 ta21 (iokF rfl) rfl (by rfl) ?_
  intro I23 hS24 e26 f25
  have c27 : I23 a1 7 = v3 := (f25 _ _ (fun q => by have z := ta1; rw [q.1, ta21] at z; exact absurd z (by decide))).trans c19
  have hO28 : FrO 14 a1 T I0 I23 := hO20.put f25 ta21 (Or.inl (by decide))
  refine tr_aload_n dX12_names_49 rfl ?_
  refine tr_getR dX12_names_50 fl12_188 (kR15 hS24.1 ta0) d2 ?_
  refine tr_dup dX12_names_53 rfl ?_
  refine q_getI dX12_names_54 fl12_209 (kR14 hS24.1 ta1) c27 ?_
  refine q_iconst dX12_names_57 (by decide) ?_
  intro v29 h30
  refine q_iaddE dX12_names_58 (by intros; omega) ?_
  intro v31 h32
  refine q_putX dX12_names_59 fl12_209 (kR14 hS24.1 ta1) (Or.inl rfl) hS24 ta1 (by decide +kernel) (hS24.1.putN (d' := 1) ta0 d2 (Or.inl rfl) (by rw [c27]; omega) (by decide) (by show (0 : Int) ≤ v31.toInt ∧ v31.toInt ≤ (13 : Int); omega)) ?_
  intro I33 hS34 e35 f36
  have hO37 : FrO 14 a1 T I0 I33 := hO28.put f36 ta1 (Or.inr rfl)
  exact tr_vret hZ dX12_names_62 rfl (by decide) (by decide) ⟨rfl, rfl, rfl, rfl, rfl, hS34, hL10, (fun b hb => by obtain rfl := Option.some.inj (d2.symm.trans hb); exact (fun t u w ht hu hw k => by
      obtain rfl := Option.some.inj (d8.symm.trans ht)
      obtain rfl := Option.some.inj (d14.symm.trans hu)
      obtain rfl := Option.some.inj (d22.symm.trans hw)
      have en := ti_nat (i := v3) (by omega)
      rw [c4]
      refine ⟨fun hk => ?_, fun hk => ?_⟩
      · obtain rfl : k = v3.toNatClampNeg := by omega
        exact ⟨e11, (f36 _ _ (fun q => by have z := ta13; rw [q.1, ta1] at z; exact absurd z (by decide))).trans ((f25 _ _ (fun q => by have z := ta13; rw [q.1, ta21] at z; exact absurd z (by decide))).trans e18), (f36 _ _ (fun q => by have z := ta21; rw [q.1, ta1] at z; exact absurd z (by decide))).trans e26⟩
      · have hk2 : ¬ k = v3.toNatClampNeg := by omega
        exact ⟨f12 _ _ (fun q => hk2 q.2), (f36 _ _ (fun q => by have z := ta13; rw [q.1, ta1] at z; exact absurd z (by decide))).trans ((f25 _ _ (fun q => by have z := ta13; rw [q.1, ta21] at z; exact absurd z (by decide))).trans (f17 _ _ (fun q => hk2 q.2))), (f36 _ _ (fun q => by have z := ta21; rw [q.1, ta1] at z; exact absurd z (by decide))).trans ((f25 _ _ (fun q => hk2 q.2)).trans (f17 _ _ (fun q => by have z := ta21; rw [q.1, ta13] at z; exact absurd z (by decide))))⟩)), (fun dr hd => (Option.some.inj (d2.symm.trans hd)) ▸ hO37), trivial⟩
def wik_X12_readAlp : List Nat := [896, 897, 968, 969, 970, 971, 972, 973, 974, 3455]
def wrk_X12_readAlp : List Nat := []
def wlk_X12_readAlp : List Nat := [975]
set_option maxHeartbeats 4000000 in
theorem fk_X12_readAlp {l : Launch} {T : Nat → Nat} {cn : Nat} {K N : Nat → Nat} {I0 : cz_I} {R0 : cz_R} {L0 : cz_L} (hW0 : Wf T cn K N I0 R0 0) (gB : cz_B) (gs : Int) (gQ : Nat → Int) {a0 : Nat} (ta0 : T a0 = 15) (hT : ∀ t, R0 a0 5 = some t → Tx I0 t gB) (hN : ∀ b, R0 a0 4 = some b → NmM I0 R0 L0 b gQ) (pre0 : (I0 a0 9).toInt = (tkM gB gs)) (pre1 : (I0 a0 9).toInt ≤ 4) (pre2 : (I0 a0 10).toInt = (tkS gB gs)) (pre3 : (I0 a0 11).toInt = (tkG gB gs)) (pre4 : (AtW ((tkK gB gs)) ((L0 a0 15).toInt) ((tkW gB gs)))) (pre5 : (AtV ((tkK gB gs)) ((I0 a0 12).toInt) ((tkV gB gs)))) (pre6 : (AtN ((tkK gB gs)) ((I0 a0 8).toInt) ((tkN gB gs)))) (pre7 : (I0 a0 7).toInt = (gB.2)) (pre8 : ∀ b1, R0 a0 4 = some b1 → (I0 b1 0).toInt = (gQ 0)) (pre9 : ∀ b1, R0 a0 4 = some b1 → (I0 b1 1).toInt = (gQ 1)) (pre10 : ∀ b1, R0 a0 4 = some b1 → (I0 b1 2).toInt = (gQ 2)) (pre11 : ∀ b1, R0 a0 4 = some b1 → (I0 b1 3).toInt = (gQ 3)) (pre12 : ∀ b1, R0 a0 4 = some b1 → (I0 b1 4).toInt = (gQ 4)) (pre13 : ∀ b1, R0 a0 4 = some b1 → (I0 b1 5).toInt = (gQ 5)) (pre14 : ∀ b1, R0 a0 4 = some b1 → (I0 b1 6).toInt = (gQ 6)) (pre15 : ∀ b1, R0 a0 4 = some b1 → (I0 b1 9).toInt = (gQ 8)) (pre16 : (Q7M ((gQ 0)) ((gQ 7)))) (pre17 : (tkK gB gs) = 1) (pre18 : (srt gB gs) = 10) (nn4 : ∃ b, R0 a0 4 = some b) : ConE l mX12_readAlp [.ref a0] cn K N I0 R0 L0 (ca_v (fun cn' K' N' I' R' L' => cn = cn' ∧ K = K' ∧ N = N' ∧ R0 = R' ∧ St T cn K N 0 wik_X12_readAlp wrk_X12_readAlp I0 R0 I' R0 ∧ (∀ dr, R0 a0 4 = some dr → FrO 14 dr T I0 I') ∧ ((((lnF gB gQ gs) = 0) ∧ (∀ b1, R0 a0 4 = some b1 → (I' b1 0).toInt = (lnQ gB gQ gs 0)) ∧ (∀ b1, R0 a0 4 = some b1 → (I' b1 1).toInt = (lnQ gB gQ gs 1)) ∧ (∀ b1, R0 a0 4 = some b1 → (I' b1 2).toInt = (lnQ gB gQ gs 2)) ∧ (∀ b1, R0 a0 4 = some b1 → (I' b1 3).toInt = (lnQ gB gQ gs 3)) ∧ (∀ b1, R0 a0 4 = some b1 → (I' b1 4).toInt = (lnQ gB gQ gs 4)) ∧ (∀ b1, R0 a0 4 = some b1 → (I' b1 5).toInt = (lnQ gB gQ gs 5)) ∧ (∀ b1, R0 a0 4 = some b1 → (I' b1 6).toInt = (lnQ gB gQ gs 6)) ∧ (∀ b1, R0 a0 4 = some b1 → (I' b1 9).toInt = (lnQ gB gQ gs 8)) ∧ ((I' a0 13).toInt = (I0 a0 13).toInt) ∧ ((I' a0 9).toInt = (tkM gB (lnS gB gQ gs))) ∧ ((I' a0 9).toInt ≤ 4) ∧ ((I' a0 10).toInt = (tkS gB (lnS gB gQ gs))) ∧ ((I' a0 11).toInt = (tkG gB (lnS gB gQ gs))) ∧ ((AtW ((tkK gB (lnS gB gQ gs))) ((L' a0 15).toInt) ((tkW gB (lnS gB gQ gs))))) ∧ ((AtV ((tkK gB (lnS gB gQ gs))) ((I' a0 12).toInt) ((tkV gB (lnS gB gQ gs))))) ∧ ((AtN ((tkK gB (lnS gB gQ gs))) ((I' a0 8).toInt) ((tkN gB (lnS gB gQ gs))))) ∧ LgS T wlk_X12_readAlp L0 L' ∧ (∀ b, R0 a0 4 = some b → NmM I' R0 L' b (lnQ gB gQ gs)) ∧ True) ∨ (((lnF gB gQ gs) ≠ 0) ∧ ((I' a0 9).toInt = 5) ∧ ((I' a0 13).toInt = (lnF gB gQ gs)) ∧ ((I' a0 14).toInt = (lnP gB gQ gs)) ∧ True)) ∧ True)) := by
  refine ConE.of (by decide +kernel) rfl (Nat.le_of_ble_eq_true rfl) rfl (fun X hX hZ hE => ?_)
  subst hX
  have hS0 : St T cn K N 0 wik_X12_readAlp wrk_X12_readAlp I0 R0 I0 R0 := St.rf0 hW0
  have hL0 : LgS T wlk_X12_readAlp L0 L0 := LgS.rf0
  obtain ⟨a1, d2⟩ := nn4
  have ta1 : T a1 = 14 := hW0.rsN ta0 rfl d2
  obtain ⟨v3, c4⟩ : ∃ v, I0 a0 9 = v := ⟨_, rfl⟩
  have b5 := iv15_9 hS0.1 ta0 c4
  have p6 := pre0
  rw [c4] at p6
  have p7 := pre1
  rw [c4] at p7
  obtain ⟨v8, c9⟩ : ∃ v, I0 a0 10 = v := ⟨_, rfl⟩
  have b10 := iv15_10 hS0.1 ta0 c9
  have p11 := pre2
  rw [c9] at p11
  obtain ⟨v12, c13⟩ : ∃ v, I0 a0 11 = v := ⟨_, rfl⟩
  have p14 := pre3
  rw [c13] at p14
  obtain ⟨y15, c16⟩ : ∃ v, L0 a0 15 = v := ⟨_, rfl⟩
  have p17 := pre4
  rw [c16] at p17
  obtain ⟨v18, c19⟩ : ∃ v, I0 a0 12 = v := ⟨_, rfl⟩
  have p20 := pre5
  rw [c19] at p20
  obtain ⟨v21, c22⟩ : ∃ v, I0 a0 8 = v := ⟨_, rfl⟩
  have b23 := iv15_8 hS0.1 ta0 c22
  have p24 := pre6
  rw [c22] at p24
  obtain ⟨v25, c26⟩ : ∃ v, I0 a0 7 = v := ⟨_, rfl⟩
  have b27 := iv15_7 hW0 ta0 c26
  have p28 := pre7
  rw [c26] at p28
  obtain ⟨v29, c30⟩ : ∃ v, I0 a1 0 = v := ⟨_, rfl⟩
  have b31 := iv14_0 hS0.1 ta1 c30
  have p32 := pre8 _ d2
  rw [c30] at p32
  obtain ⟨v33, c34⟩ : ∃ v, I0 a1 1 = v := ⟨_, rfl⟩
  have b35 := iv14_1 hS0.1 ta1 c34
  have p36 := pre9 _ d2
  rw [c34] at p36
  obtain ⟨v37, c38⟩ : ∃ v, I0 a1 2 = v := ⟨_, rfl⟩
  have b39 := iv14_2 hW0 ta1 c38
  have p40 := pre10 _ d2
  rw [c38] at p40
  obtain ⟨v41, c42⟩ : ∃ v, I0 a1 3 = v := ⟨_, rfl⟩
  have b43 := iv14_3 hW0 ta1 c42
  have p44 := pre11 _ d2
  rw [c42] at p44
  obtain ⟨v45, c46⟩ : ∃ v, I0 a1 4 = v := ⟨_, rfl⟩
  have b47 := iv14_4 hW0 ta1 c46
  have p48 := pre12 _ d2
  rw [c46] at p48
  obtain ⟨v49, c50⟩ : ∃ v, I0 a1 5 = v := ⟨_, rfl⟩
  have b51 := iv14_5 hW0 ta1 c50
  have p52 := pre13 _ d2
  rw [c50] at p52
  obtain ⟨v53, c54⟩ : ∃ v, I0 a1 6 = v := ⟨_, rfl⟩
  have b55 := iv14_6 hW0 ta1 c54
  have p56 := pre14 _ d2
  rw [c54] at p56
  obtain ⟨v57, c58⟩ : ∃ v, I0 a1 9 = v := ⟨_, rfl⟩
  have b59 := iv14_9 hW0 ta1 c58
  have p60 := pre15 _ d2
  rw [c58] at p60
  have p61 := pre16
  have p62 := pre17
  have p63 := pre18
  obtain ⟨v64, c65⟩ : ∃ v, I0 a0 13 = v := ⟨_, rfl⟩
  have hM0 := hN _ d2
  have hO0 : FrO 14 a1 T I0 I0 := FrO.rf
  have hF := lnF_ch gB gQ gs
  have hP := lnP_ch gB gQ gs
  replace hF := hF.neg (by omega)
  replace hP := hP.neg (by omega)
  refine tr_aload_n dX12_readAlp_0 rfl ?_
  refine tr_getR dX12_readAlp_1 fl12_188 (kR15 hS0.1 ta0) d2 ?_
  refine q_getI dX12_readAlp_4 fl12_192 (kR14 hS0.1 ta1) c30 ?_
  refine q_if_le 15 dX12_readAlp_7 (by decide) (fun h66 => ?_) (fun h66 => ?_)
  · skip
    have p67 := p61
    unfold Q7M at p67
    replace hF := hF.neg (by omega)
    replace hP := hP.neg (by omega)
    replace hF := hF.neg (by omega)
    replace hP := hP.neg (by omega)
    replace hF := hF.neg (by omega)
    replace hP := hP.neg (by omega)
    refine tr_aload_n dX12_readAlp_15 rfl ?_
    have p68 := p24 (by omega)
    refine q_callVv hE (M' := mX12_goesOn) (as := []) dX12_readAlp_16 lk12_142 inX12_goesOn seX12_goesOn myX12_goesOn (by decide) ⟨by decide, by decide⟩ rfl (kR15 hS0.1 ta0) (Nat.le_of_ble_eq_true rfl) rfl rfl (by decide) (by decide) (fk_X12_goesOn hS0.1 (gB) ((tkN gB gs)) ta0 (TxA.kp hT hS0 ta0 rfl rfl rfl (by decide +kernel) (by decide +kernel)) (by (try rw [c22]); first | done | with_reducible assumption | omega) (by (try rw [c26]); first | done | with_reducible assumption | omega) (by (try rw [c4]); first | done | with_reducible assumption | omega)) ?_
    rintro cn' K' N' I69 R70 L71 ⟨rfl, rfl, rfl, rfl, g72, gl73, p75, p76, p77, p78, p79, p80, p81, -⟩
    have hM82 : NmM I69 R0 L0 a1 gQ := NmM.kpS hM0 g72 hS0.1 ta1 (by decide +kernel) (by decide +kernel)
    have hS83 := hS0.tr g72 (by decide +kernel) (by decide +kernel)
    have c84 : I69 a1 0 = v29 := (g72.cell ta1 (by decide +kernel)).trans c30
    have c85 : I69 a1 1 = v33 := (g72.cell ta1 (by decide +kernel)).trans c34
    have c86 : I69 a0 13 = v64 := (g72.cell ta0 (by decide +kernel)).trans c65
    have hO87 : FrO 14 a1 T I0 I69 := hO0.st g72 (by decide +kernel)
    have hL88 := hL0.tr gl73 (by decide +kernel)
    have hM89 : NmM I69 R0 L71 a1 gQ := NmM.kpL hM82 gl73 hS83.1 ta1 (by decide +kernel)
    obtain ⟨v90, c91⟩ : ∃ v, I69 a0 9 = v := ⟨_, rfl⟩
    have b92 := iv15_9 hS83.1 ta0 c91
    rw [c91] at p75
    rw [c91] at p76
    obtain ⟨v93, c94⟩ : ∃ v, I69 a0 10 = v := ⟨_, rfl⟩
    have b95 := iv15_10 hS83.1 ta0 c94
    rw [c94] at p77
    obtain ⟨v96, c97⟩ : ∃ v, I69 a0 11 = v := ⟨_, rfl⟩
    rw [c97] at p78
    obtain ⟨y98, c99⟩ : ∃ v, L71 a0 15 = v := ⟨_, rfl⟩
    rw [c99] at p79
    obtain ⟨v100, c101⟩ : ∃ v, I69 a0 12 = v := ⟨_, rfl⟩
    rw [c101] at p80
    obtain ⟨v102, c103⟩ : ∃ v, I69 a0 8 = v := ⟨_, rfl⟩
    have b104 := iv15_8 hS83.1 ta0 c103
    rw [c103] at p81
    obtain ⟨w105, w106, w107, w108, w109, w110, w111, w112, w113, w114, w115, w116⟩ := lnl_10 (B := gB) (Q := gQ) (s := gs) (by omega)
    replace hF := hF.to w105 (alF_ch gB gQ (tkN gB gs))
    replace hP := hP.to w106 (alP_ch gB gQ (tkN gB gs))
    refine tr_aload_n dX12_readAlp_19 rfl ?_
    refine tr_ldcS dX12_readAlp_20 ld12_248 ?_
    refine q_bipush dX12_readAlp_22 (by decide +kernel) ?_
    intro v117 h118
    refine q_sipush dX12_readAlp_24 (by decide +kernel) ?_
    intro v119 h120
    refine q_callVi hE (M' := mX12_readPart) (as := [_, _, _]) dX12_readAlp_27 lk12_249 inX12_readPart seX12_readPart myX12_readPart (by decide) ⟨by decide, by decide⟩ rfl (kR15 hS83.1 ta0) (Nat.le_of_ble_eq_true rfl) rfl rfl (by decide) (by decide) (fk_X12_readPart hS83.1 (gB) ((tkN gB gs)) ta0 (by decide) (TxA.kp hT hS83 ta0 rfl rfl rfl (by decide +kernel) (by decide +kernel)) (by (try rw [c91]); first | done | with_reducible assumption | omega) (by (try rw [c91]); first | done | with_reducible assumption | omega) (by (try rw [c94]); first | done | with_reducible assumption | omega) (by (try rw [c97]); first | done | with_reducible assumption | omega) (by (try rw [c99]); first | done | assumption) (by (try rw [c101]); first | done | assumption) (by (try rw [c103]); first | done | assumption) (by (try rw [((hS83.cell ta0 (by decide +kernel)).trans c26)]); first | done | with_reducible assumption | omega)) ?_
    rintro v126 cn' K' N' I121 R122 L123 ⟨rfl, rfl, rfl, rfl, g124, dj127, -⟩
    (try rw [pk_18] at dj127)
    have hM128 : NmM I121 R0 L71 a1 gQ := NmM.kpS hM89 g124 hS83.1 ta1 (by decide +kernel) (by decide +kernel)
    have hS129 := hS83.tr g124 (by decide +kernel) (by decide +kernel)
    have c130 : I121 a1 0 = v29 := (g124.cell ta1 (by decide +kernel)).trans c84
    have c131 : I121 a1 1 = v33 := (g124.cell ta1 (by decide +kernel)).trans c85
    have hO132 : FrO 14 a1 T I0 I121 := hO87.st g124 (by decide +kernel)
    rcases dj127 with ⟨p133, p134, p135, p136, p137, p138, p139, p140, p141, p142, p143, p144, p145, p146, gl147, -⟩ | ⟨p148, p149, p150, p151, p152, -⟩ | ⟨p153, p154, p155, p156, p157, p158, p159, -⟩ | ⟨p160, p161, p162, p163, p164, p165, p166, p167, -⟩
    · skip
      have hL168 := hL88.tr gl147 (by decide +kernel)
      have hM169 : NmM I121 R0 L123 a1 gQ := NmM.kpL hM128 gl147 hS129.1 ta1 (by decide +kernel)
      obtain ⟨v170, c171⟩ : ∃ v, I121 a0 13 = v := ⟨_, rfl⟩
      rw [c171] at p139
      rw [c86] at p139
      obtain ⟨v172, c173⟩ : ∃ v, I121 a0 9 = v := ⟨_, rfl⟩
      have b174 := iv15_9 hS129.1 ta0 c173
      rw [c173] at p140
      rw [c173] at p141
      obtain ⟨v175, c176⟩ : ∃ v, I121 a0 10 = v := ⟨_, rfl⟩
      have b177 := iv15_10 hS129.1 ta0 c176
      rw [c176] at p142
      obtain ⟨v178, c179⟩ : ∃ v, I121 a0 11 = v := ⟨_, rfl⟩
      rw [c179] at p143
      obtain ⟨y180, c181⟩ : ∃ v, L123 a0 15 = v := ⟨_, rfl⟩
      rw [c181] at p144
      obtain ⟨v182, c183⟩ : ∃ v, I121 a0 12 = v := ⟨_, rfl⟩
      rw [c183] at p145
      obtain ⟨v184, c185⟩ : ∃ v, I121 a0 8 = v := ⟨_, rfl⟩
      have b186 := iv15_8 hS129.1 ta0 c185
      rw [c185] at p146
      replace hF := hF.neg (by omega)
      replace hP := hP.neg (by omega)
      replace hF := hF.neg (by omega)
      replace hP := hP.neg (by omega)
      replace hF := hF.neg (by omega)
      replace hP := hP.neg (by omega)
      refine tr_istore_n dX12_readAlp_30 (by decide) (by decide) ?_
      refine tr_aload_n dX12_readAlp_31 rfl ?_
      refine tr_ldcS dX12_readAlp_32 ld12_253 ?_
      refine q_iconst dX12_readAlp_34 (by decide) ?_
      intro v187 h188
      refine q_iconst dX12_readAlp_35 (by decide) ?_
      intro v189 h190
      refine q_callVi hE (M' := mX12_readPart) (as := [_, _, _]) dX12_readAlp_36 lk12_249 inX12_readPart seX12_readPart myX12_readPart (by decide) ⟨by decide, by decide⟩ rfl (kR15 hS129.1 ta0) (Nat.le_of_ble_eq_true rfl) rfl rfl (by decide) (by decide) (fk_X12_readPart hS129.1 (gB) ((tkN gB (tkN gB (tkN gB gs)))) ta0 (by decide) (TxA.kp hT hS129 ta0 rfl rfl rfl (by decide +kernel) (by decide +kernel)) (by (try rw [c173]); first | done | with_reducible assumption | omega) (by (try rw [c173]); first | done | with_reducible assumption | omega) (by (try rw [c176]); first | done | with_reducible assumption | omega) (by (try rw [c179]); first | done | with_reducible assumption | omega) (by (try rw [c181]); first | done | assumption) (by (try rw [c183]); first | done | assumption) (by (try rw [c185]); first | done | assumption) (by (try rw [((hS129.cell ta0 (by decide +kernel)).trans c26)]); first | done | with_reducible assumption | omega)) ?_
      rintro v196 cn' K' N' I191 R192 L193 ⟨rfl, rfl, rfl, rfl, g194, dj197, -⟩
      (try rw [pk_16] at dj197)
      have hM198 : NmM I191 R0 L123 a1 gQ := NmM.kpS hM169 g194 hS129.1 ta1 (by decide +kernel) (by decide +kernel)
      have hS199 := hS129.tr g194 (by decide +kernel) (by decide +kernel)
      have c200 : I191 a1 0 = v29 := (g194.cell ta1 (by decide +kernel)).trans c130
      have c201 : I191 a1 1 = v33 := (g194.cell ta1 (by decide +kernel)).trans c131
      have hO202 : FrO 14 a1 T I0 I191 := hO132.st g194 (by decide +kernel)
      rcases dj197 with ⟨p203, p204, p205, p206, p207, p208, p209, p210, p211, p212, p213, p214, p215, p216, gl217, -⟩ | ⟨p218, p219, p220, p221, p222, -⟩ | ⟨p223, p224, p225, p226, p227, p228, p229, -⟩ | ⟨p230, p231, p232, p233, p234, p235, p236, p237, -⟩
      · skip
        have hL238 := hL168.tr gl217 (by decide +kernel)
        have hM239 : NmM I191 R0 L193 a1 gQ := NmM.kpL hM198 gl217 hS199.1 ta1 (by decide +kernel)
        obtain ⟨v240, c241⟩ : ∃ v, I191 a0 13 = v := ⟨_, rfl⟩
        rw [c241] at p209
        rw [c171] at p209
        obtain ⟨v242, c243⟩ : ∃ v, I191 a0 9 = v := ⟨_, rfl⟩
        have b244 := iv15_9 hS199.1 ta0 c243
        rw [c243] at p210
        rw [c243] at p211
        obtain ⟨v245, c246⟩ : ∃ v, I191 a0 10 = v := ⟨_, rfl⟩
        have b247 := iv15_10 hS199.1 ta0 c246
        rw [c246] at p212
        obtain ⟨v248, c249⟩ : ∃ v, I191 a0 11 = v := ⟨_, rfl⟩
        rw [c249] at p213
        obtain ⟨y250, c251⟩ : ∃ v, L193 a0 15 = v := ⟨_, rfl⟩
        rw [c251] at p214
        obtain ⟨v252, c253⟩ : ∃ v, I191 a0 12 = v := ⟨_, rfl⟩
        rw [c253] at p215
        obtain ⟨v254, c255⟩ : ∃ v, I191 a0 8 = v := ⟨_, rfl⟩
        have b256 := iv15_8 hS199.1 ta0 c255
        rw [c255] at p216
        replace hF := hF.neg (by omega)
        replace hP := hP.neg (by omega)
        replace hF := hF.neg (by omega)
        replace hP := hP.neg (by omega)
        replace hF := hF.neg (by omega)
        replace hP := hP.neg (by omega)
        refine tr_istore_n dX12_readAlp_39 (by decide) (by decide) ?_
        refine tr_aload_n dX12_readAlp_40 rfl ?_
        refine tr_ldcS dX12_readAlp_41 ld12_255 ?_
        refine q_callVv hE (M' := mX12_needs) (as := [_]) dX12_readAlp_43 lk12_157 inX12_needs seX12_needs myX12_needs (by decide) ⟨by decide, by decide⟩ rfl (kR15 hS199.1 ta0) (Nat.le_of_ble_eq_true rfl) rfl rfl (by decide) (by decide) (fk_X12_needs hS199.1 (gB) ((tkN gB (tkN gB (tkN gB (tkN gB (tkN gB gs)))))) ta0 (by decide) (TxA.kp hT hS199 ta0 rfl rfl rfl (by decide +kernel) (by decide +kernel)) (by (try rw [c243]); first | done | with_reducible assumption | omega) (by (try rw [c243]); first | done | with_reducible assumption | omega) (by (try rw [c246]); first | done | with_reducible assumption | omega) (by (try rw [c249]); first | done | with_reducible assumption | omega) (by (try rw [c251]); first | done | assumption) (by (try rw [c253]); first | done | assumption) (by (try rw [c255]); first | done | assumption) (by (try rw [((hS199.cell ta0 (by decide +kernel)).trans c26)]); first | done | with_reducible assumption | omega)) ?_
        rintro cn' K' N' I257 R258 L259 ⟨rfl, rfl, rfl, rfl, g260, dj263, -⟩
        (try rw [pk_20] at dj263)
        have hM264 : NmM I257 R0 L193 a1 gQ := NmM.kpS hM239 g260 hS199.1 ta1 (by decide +kernel) (by decide +kernel)
        have hS265 := hS199.tr g260 (by decide +kernel) (by decide +kernel)
        have c266 : I257 a1 0 = v29 := (g260.cell ta1 (by decide +kernel)).trans c200
        have c267 : I257 a1 1 = v33 := (g260.cell ta1 (by decide +kernel)).trans c201
        have hO268 : FrO 14 a1 T I0 I257 := hO202.st g260 (by decide +kernel)
        rcases dj263 with ⟨p269, p270, p271, p272, p273, p274, p275, p276, p277, p278, gl279, -⟩ | ⟨p280, p281, p282, p283, -⟩
        · skip
          have hL284 := hL238.tr gl279 (by decide +kernel)
          have hM285 : NmM I257 R0 L259 a1 gQ := NmM.kpL hM264 gl279 hS265.1 ta1 (by decide +kernel)
          obtain ⟨v286, c287⟩ : ∃ v, I257 a0 13 = v := ⟨_, rfl⟩
          rw [c287] at p271
          rw [c241] at p271
          obtain ⟨v288, c289⟩ : ∃ v, I257 a0 9 = v := ⟨_, rfl⟩
          have b290 := iv15_9 hS265.1 ta0 c289
          rw [c289] at p272
          rw [c289] at p273
          obtain ⟨v291, c292⟩ : ∃ v, I257 a0 10 = v := ⟨_, rfl⟩
          have b293 := iv15_10 hS265.1 ta0 c292
          rw [c292] at p274
          obtain ⟨v294, c295⟩ : ∃ v, I257 a0 11 = v := ⟨_, rfl⟩
          rw [c295] at p275
          obtain ⟨y296, c297⟩ : ∃ v, L259 a0 15 = v := ⟨_, rfl⟩
          rw [c297] at p276
          obtain ⟨v298, c299⟩ : ∃ v, I257 a0 12 = v := ⟨_, rfl⟩
          rw [c299] at p277
          obtain ⟨v300, c301⟩ : ∃ v, I257 a0 8 = v := ⟨_, rfl⟩
          have b302 := iv15_8 hS265.1 ta0 c301
          rw [c301] at p278
          replace hF := hF.neg (by omega)
          replace hP := hP.neg (by omega)
          refine q_iconst dX12_readAlp_46 (by decide) ?_
          intro v303 h304
          refine tr_istore_n dX12_readAlp_47 (by decide) (by decide) ?_
          refine tr_iload_n dX12_readAlp_48 rfl ?_
          refine q_iconst dX12_readAlp_49 (by decide) ?_
          intro v305 h306
          refine q_icmp_ge 85 dX12_readAlp_50 (by decide) (fun h307 => ?_) (fun h307 => ?_)
          · skip
            exfalso; omega
          · skip
            refine tr_iload_n dX12_readAlp_53 rfl ?_
            refine q_if_le 63 dX12_readAlp_54 (by decide) (fun h308 => ?_) (fun h308 => ?_)
            · skip
              refine tr_aload_n dX12_readAlp_63 rfl ?_
              refine tr_getR dX12_readAlp_64 fl12_188 (kR15 hS265.1 ta0) d2 ?_
              obtain ⟨a309, d310, ta309⟩ := rf14_10 hW0 ta1
              refine tr_getR dX12_readAlp_67 fl12_260 (kR14 hS265.1 ta1) d310 ?_
              refine tr_iload_n dX12_readAlp_70 rfl ?_
              refine tr_aload_n dX12_readAlp_71 rfl ?_
              refine q_iconst dX12_readAlp_72 (by decide) ?_
              intro v311 h312
              refine q_bipush dX12_readAlp_73 (by decide +kernel) ?_
              intro v313 h314
              refine q_callVi hE (M' := mX12_readWhole) (as := [_, _]) dX12_readAlp_75 lk12_161 inX12_readWhole seX12_readWhole myX12_readWhole (by decide) ⟨by decide, by decide⟩ rfl (kR15 hS265.1 ta0) (Nat.le_of_ble_eq_true rfl) rfl rfl (by decide) (by decide) (fk_X12_readWhole hS265.1 (gB) ((tkN gB (tkN gB (tkN gB (tkN gB (tkN gB (tkN gB gs))))))) ta0 (TxA.kp hT hS265 ta0 rfl rfl rfl (by decide +kernel) (by decide +kernel)) (by (try rw [c289]); first | done | with_reducible assumption | omega) (by (try rw [c289]); first | done | with_reducible assumption | omega) (by (try rw [c292]); first | done | with_reducible assumption | omega) (by (try rw [c295]); first | done | with_reducible assumption | omega) (by (try rw [c297]); first | done | assumption) (by (try rw [c299]); first | done | assumption) (by (try rw [c301]); first | done | assumption) (by (try rw [((hS265.cell ta0 (by decide +kernel)).trans c26)]); first | done | with_reducible assumption | omega)) ?_
              rintro v320 cn' K' N' I315 R316 L317 ⟨rfl, rfl, rfl, rfl, g318, dj321, -⟩
              have hM322 : NmM I315 R0 L259 a1 gQ := NmM.kpS hM285 g318 hS265.1 ta1 (by decide +kernel) (by decide +kernel)
              have hS323 := hS265.tr g318 (by decide +kernel) (by decide +kernel)
              have c324 : I315 a1 0 = v29 := (g318.cell ta1 (by decide +kernel)).trans c266
              have c325 : I315 a1 1 = v33 := (g318.cell ta1 (by decide +kernel)).trans c267
              have hO326 : FrO 14 a1 T I0 I315 := hO268.st g318 (by decide +kernel)
              rcases dj321 with ⟨p327, p328, p329, p330, p331, p332, p333, p334, p335, p336, p337, p338, gl339, -⟩ | ⟨p340, p341, p342, p343, p344, -⟩ | ⟨p345, p346, p347, p348, p349, p350, -⟩
              · skip
                have hL351 := hL284.tr gl339 (by decide +kernel)
                have hM352 : NmM I315 R0 L317 a1 gQ := NmM.kpL hM322 gl339 hS323.1 ta1 (by decide +kernel)
                obtain ⟨v353, c354⟩ : ∃ v, I315 a0 13 = v := ⟨_, rfl⟩
                rw [c354] at p331
                rw [c287] at p331
                obtain ⟨v355, c356⟩ : ∃ v, I315 a0 9 = v := ⟨_, rfl⟩
                have b357 := iv15_9 hS323.1 ta0 c356
                rw [c356] at p332
                rw [c356] at p333
                obtain ⟨v358, c359⟩ : ∃ v, I315 a0 10 = v := ⟨_, rfl⟩
                have b360 := iv15_10 hS323.1 ta0 c359
                rw [c359] at p334
                obtain ⟨v361, c362⟩ : ∃ v, I315 a0 11 = v := ⟨_, rfl⟩
                rw [c362] at p335
                obtain ⟨y363, c364⟩ : ∃ v, L317 a0 15 = v := ⟨_, rfl⟩
                rw [c364] at p336
                obtain ⟨v365, c366⟩ : ∃ v, I315 a0 12 = v := ⟨_, rfl⟩
                rw [c366] at p337
                obtain ⟨v367, c368⟩ : ∃ v, I315 a0 8 = v := ⟨_, rfl⟩
                have b369 := iv15_8 hS323.1 ta0 c368
                rw [c368] at p338
                replace hF := hF.neg (by omega)
                replace hP := hP.neg (by omega)
                replace hF := hF.neg (by omega)
                replace hP := hP.neg (by omega)
                refine q_iast dX12_readAlp_78 (kR53 hS323.1 ta309) (ti_in (nR53 hS323.1 ta309) (by omega) (by omega)) hS323 ta309 (iokF rfl) rfl (by rfl) ?_
                intro I370 hS371 e373 f372
                have c374 : I370 a1 0 = v29 := (f372 _ _ (fun q => by have z := ta1; rw [q.1, ta309] at z; exact absurd z (by decide))).trans c324
                have c375 : I370 a1 1 = v33 := (f372 _ _ (fun q => by have z := ta1; rw [q.1, ta309] at z; exact absurd z (by decide))).trans c325
                have c376 : I370 a0 13 = v353 := (f372 _ _ (fun q => by have z := ta0; rw [q.1, ta309] at z; exact absurd z (by decide))).trans c354
                have c377 : I370 a0 9 = v355 := (f372 _ _ (fun q => by have z := ta0; rw [q.1, ta309] at z; exact absurd z (by decide))).trans c356
                have c378 : I370 a0 10 = v358 := (f372 _ _ (fun q => by have z := ta0; rw [q.1, ta309] at z; exact absurd z (by decide))).trans c359
                have c379 : I370 a0 11 = v361 := (f372 _ _ (fun q => by have z := ta0; rw [q.1, ta309] at z; exact absurd z (by decide))).trans c362
                have c380 : I370 a0 12 = v365 := (f372 _ _ (fun q => by have z := ta0; rw [q.1, ta309] at z; exact absurd z (by decide))).trans c366
                have c381 : I370 a0 8 = v367 := (f372 _ _ (fun q => by have z := ta0; rw [q.1, ta309] at z; exact absurd z (by decide))).trans c368
                have hO382 : FrO 14 a1 T I0 I370 := hO326.put f372 ta309 (Or.inl (by decide))
                have hM383 : NmM I370 R0 L317 a1 gQ := NmM.kp1 hM352 f372 ta309 rfl rfl hS323.1 ta1
                refine q_iincE dX12_readAlp_79 rfl (by decide) (by decide) (by intros; omega) ?_
                intro v384 h385
                refine tr_goto 48 dX12_readAlp_82 (by decide) ?_
                refine tr_iload_n dX12_readAlp_48 rfl ?_
                refine q_iconst dX12_readAlp_49 (by decide) ?_
                intro v386 h387
                refine q_icmp_ge 85 dX12_readAlp_50 (by decide) (fun h388 => ?_) (fun h388 => ?_)
                · skip
                  exfalso; omega
                · skip
                  refine tr_iload_n dX12_readAlp_53 rfl ?_
                  refine q_if_le 63 dX12_readAlp_54 (by decide) (fun h389 => ?_) (fun h389 => ?_)
                  · skip
                    exfalso; omega
                  · skip
                    refine tr_aload_n dX12_readAlp_57 rfl ?_
                    refine q_bipush dX12_readAlp_58 (by decide +kernel) ?_
                    intro v390 h391
                    refine q_callVv hE (M' := mX12_needsSign) (as := [_]) dX12_readAlp_60 lk12_257 inX12_needsSign seX12_needsSign myX12_needsSign (by decide) ⟨by decide, by decide⟩ rfl (kR15 hS371.1 ta0) (Nat.le_of_ble_eq_true rfl) rfl rfl (by decide) (by decide) (fk_X12_needsSign hS371.1 (gB) ((tkN gB (tkN gB (tkN gB (tkN gB (tkN gB (tkN gB (tkN gB gs)))))))) ta0 (TxA.kp hT hS371 ta0 rfl rfl rfl (by decide +kernel) (by decide +kernel)) (by (try rw [c377]); first | done | with_reducible assumption | omega) (by (try rw [c377]); first | done | with_reducible assumption | omega) (by (try rw [c378]); first | done | with_reducible assumption | omega) (by (try rw [c379]); first | done | with_reducible assumption | omega) (by (try rw [c364]); first | done | assumption) (by (try rw [c380]); first | done | assumption) (by (try rw [c381]); first | done | assumption) (by (try rw [((hS371.cell ta0 (by decide +kernel)).trans c26)]); first | done | with_reducible assumption | omega) (by first | done | with_reducible assumption | omega)) ?_
                    rintro cn' K' N' I392 R393 L394 ⟨rfl, rfl, rfl, rfl, g395, dj398, -⟩
                    have hM399 : NmM I392 R0 L317 a1 gQ := NmM.kpS hM383 g395 hS371.1 ta1 (by decide +kernel) (by decide +kernel)
                    have hS400 := hS371.tr g395 (by decide +kernel) (by decide +kernel)
                    have c401 : I392 a1 0 = v29 := (g395.cell ta1 (by decide +kernel)).trans c374
                    have c402 : I392 a1 1 = v33 := (g395.cell ta1 (by decide +kernel)).trans c375
                    have hO403 : FrO 14 a1 T I0 I392 := hO382.st g395 (by decide +kernel)
                    rcases dj398 with ⟨p404, p405, p406, p407, p408, p409, p410, p411, p412, gl413, -⟩ | ⟨p414, p415, p416, p417, -⟩
                    · skip
                      have hL418 := hL351.tr gl413 (by decide +kernel)
                      have hM419 : NmM I392 R0 L394 a1 gQ := NmM.kpL hM399 gl413 hS400.1 ta1 (by decide +kernel)
                      obtain ⟨v420, c421⟩ : ∃ v, I392 a0 13 = v := ⟨_, rfl⟩
                      rw [c421] at p405
                      rw [c376] at p405
                      obtain ⟨v422, c423⟩ : ∃ v, I392 a0 9 = v := ⟨_, rfl⟩
                      have b424 := iv15_9 hS400.1 ta0 c423
                      rw [c423] at p406
                      rw [c423] at p407
                      obtain ⟨v425, c426⟩ : ∃ v, I392 a0 10 = v := ⟨_, rfl⟩
                      have b427 := iv15_10 hS400.1 ta0 c426
                      rw [c426] at p408
                      obtain ⟨v428, c429⟩ : ∃ v, I392 a0 11 = v := ⟨_, rfl⟩
                      rw [c429] at p409
                      obtain ⟨y430, c431⟩ : ∃ v, L394 a0 15 = v := ⟨_, rfl⟩
                      rw [c431] at p410
                      obtain ⟨v432, c433⟩ : ∃ v, I392 a0 12 = v := ⟨_, rfl⟩
                      rw [c433] at p411
                      obtain ⟨v434, c435⟩ : ∃ v, I392 a0 8 = v := ⟨_, rfl⟩
                      have b436 := iv15_8 hS400.1 ta0 c435
                      rw [c435] at p412
                      replace hF := hF.neg (by omega)
                      replace hP := hP.neg (by omega)
                      refine tr_aload_n dX12_readAlp_63 rfl ?_
                      refine tr_getR dX12_readAlp_64 fl12_188 (kR15 hS400.1 ta0) d2 ?_
                      refine tr_getR dX12_readAlp_67 fl12_260 (kR14 hS400.1 ta1) d310 ?_
                      refine tr_iload_n dX12_readAlp_70 rfl ?_
                      refine tr_aload_n dX12_readAlp_71 rfl ?_
                      refine q_iconst dX12_readAlp_72 (by decide) ?_
                      intro v437 h438
                      refine q_bipush dX12_readAlp_73 (by decide +kernel) ?_
                      intro v439 h440
                      refine q_callVi hE (M' := mX12_readWhole) (as := [_, _]) dX12_readAlp_75 lk12_161 inX12_readWhole seX12_readWhole myX12_readWhole (by decide) ⟨by decide, by decide⟩ rfl (kR15 hS400.1 ta0) (Nat.le_of_ble_eq_true rfl) rfl rfl (by decide) (by decide) (fk_X12_readWhole hS400.1 (gB) ((tkN gB (tkN gB (tkN gB (tkN gB (tkN gB (tkN gB (tkN gB (tkN gB gs))))))))) ta0 (TxA.kp hT hS400 ta0 rfl rfl rfl (by decide +kernel) (by decide +kernel)) (by (try rw [c423]); first | done | with_reducible assumption | omega) (by (try rw [c423]); first | done | with_reducible assumption | omega) (by (try rw [c426]); first | done | with_reducible assumption | omega) (by (try rw [c429]); first | done | with_reducible assumption | omega) (by (try rw [c431]); first | done | assumption) (by (try rw [c433]); first | done | assumption) (by (try rw [c435]); first | done | assumption) (by (try rw [((hS400.cell ta0 (by decide +kernel)).trans c26)]); first | done | with_reducible assumption | omega)) ?_
                      rintro v446 cn' K' N' I441 R442 L443 ⟨rfl, rfl, rfl, rfl, g444, dj447, -⟩
                      have hM448 : NmM I441 R0 L394 a1 gQ := NmM.kpS hM419 g444 hS400.1 ta1 (by decide +kernel) (by decide +kernel)
                      have hS449 := hS400.tr g444 (by decide +kernel) (by decide +kernel)
                      have c450 : I441 a1 0 = v29 := (g444.cell ta1 (by decide +kernel)).trans c401
                      have c451 : I441 a1 1 = v33 := (g444.cell ta1 (by decide +kernel)).trans c402
                      have hO452 : FrO 14 a1 T I0 I441 := hO403.st g444 (by decide +kernel)
                      rcases dj447 with ⟨p453, p454, p455, p456, p457, p458, p459, p460, p461, p462, p463, p464, gl465, -⟩ | ⟨p466, p467, p468, p469, p470, -⟩ | ⟨p471, p472, p473, p474, p475, p476, -⟩
                      · skip
                        have hL477 := hL418.tr gl465 (by decide +kernel)
                        have hM478 : NmM I441 R0 L443 a1 gQ := NmM.kpL hM448 gl465 hS449.1 ta1 (by decide +kernel)
                        obtain ⟨v479, c480⟩ : ∃ v, I441 a0 13 = v := ⟨_, rfl⟩
                        rw [c480] at p457
                        rw [c421] at p457
                        obtain ⟨v481, c482⟩ : ∃ v, I441 a0 9 = v := ⟨_, rfl⟩
                        have b483 := iv15_9 hS449.1 ta0 c482
                        rw [c482] at p458
                        rw [c482] at p459
                        obtain ⟨v484, c485⟩ : ∃ v, I441 a0 10 = v := ⟨_, rfl⟩
                        have b486 := iv15_10 hS449.1 ta0 c485
                        rw [c485] at p460
                        obtain ⟨v487, c488⟩ : ∃ v, I441 a0 11 = v := ⟨_, rfl⟩
                        rw [c488] at p461
                        obtain ⟨y489, c490⟩ : ∃ v, L443 a0 15 = v := ⟨_, rfl⟩
                        rw [c490] at p462
                        obtain ⟨v491, c492⟩ : ∃ v, I441 a0 12 = v := ⟨_, rfl⟩
                        rw [c492] at p463
                        obtain ⟨v493, c494⟩ : ∃ v, I441 a0 8 = v := ⟨_, rfl⟩
                        have b495 := iv15_8 hS449.1 ta0 c494
                        rw [c494] at p464
                        replace hF := hF.neg (by omega)
                        replace hP := hP.neg (by omega)
                        replace hF := hF.neg (by omega)
                        replace hP := hP.neg (by omega)
                        refine q_iast dX12_readAlp_78 (kR53 hS449.1 ta309) (ti_in (nR53 hS449.1 ta309) (by omega) (by omega)) hS449 ta309 (iokF rfl) rfl (by rfl) ?_
                        intro I496 hS497 e499 f498
                        have c500 : I496 a1 0 = v29 := (f498 _ _ (fun q => by have z := ta1; rw [q.1, ta309] at z; exact absurd z (by decide))).trans c450
                        have c501 : I496 a1 1 = v33 := (f498 _ _ (fun q => by have z := ta1; rw [q.1, ta309] at z; exact absurd z (by decide))).trans c451
                        have c502 : I496 a0 13 = v479 := (f498 _ _ (fun q => by have z := ta0; rw [q.1, ta309] at z; exact absurd z (by decide))).trans c480
                        have c503 : I496 a0 9 = v481 := (f498 _ _ (fun q => by have z := ta0; rw [q.1, ta309] at z; exact absurd z (by decide))).trans c482
                        have c504 : I496 a0 10 = v484 := (f498 _ _ (fun q => by have z := ta0; rw [q.1, ta309] at z; exact absurd z (by decide))).trans c485
                        have c505 : I496 a0 11 = v487 := (f498 _ _ (fun q => by have z := ta0; rw [q.1, ta309] at z; exact absurd z (by decide))).trans c488
                        have c506 : I496 a0 12 = v491 := (f498 _ _ (fun q => by have z := ta0; rw [q.1, ta309] at z; exact absurd z (by decide))).trans c492
                        have c507 : I496 a0 8 = v493 := (f498 _ _ (fun q => by have z := ta0; rw [q.1, ta309] at z; exact absurd z (by decide))).trans c494
                        have hO508 : FrO 14 a1 T I0 I496 := hO452.put f498 ta309 (Or.inl (by decide))
                        have hM509 : NmM I496 R0 L443 a1 gQ := NmM.kp1 hM478 f498 ta309 rfl rfl hS449.1 ta1
                        refine q_iincE dX12_readAlp_79 rfl (by decide) (by decide) (by intros; omega) ?_
                        intro v510 h511
                        refine tr_goto 48 dX12_readAlp_82 (by decide) ?_
                        refine tr_iload_n dX12_readAlp_48 rfl ?_
                        refine q_iconst dX12_readAlp_49 (by decide) ?_
                        intro v512 h513
                        refine q_icmp_ge 85 dX12_readAlp_50 (by decide) (fun h514 => ?_) (fun h514 => ?_)
                        · skip
                          exfalso; omega
                        · skip
                          refine tr_iload_n dX12_readAlp_53 rfl ?_
                          refine q_if_le 63 dX12_readAlp_54 (by decide) (fun h515 => ?_) (fun h515 => ?_)
                          · skip
                            exfalso; omega
                          · skip
                            refine tr_aload_n dX12_readAlp_57 rfl ?_
                            refine q_bipush dX12_readAlp_58 (by decide +kernel) ?_
                            intro v516 h517
                            refine q_callVv hE (M' := mX12_needsSign) (as := [_]) dX12_readAlp_60 lk12_257 inX12_needsSign seX12_needsSign myX12_needsSign (by decide) ⟨by decide, by decide⟩ rfl (kR15 hS497.1 ta0) (Nat.le_of_ble_eq_true rfl) rfl rfl (by decide) (by decide) (fk_X12_needsSign hS497.1 (gB) ((tkN gB (tkN gB (tkN gB (tkN gB (tkN gB (tkN gB (tkN gB (tkN gB (tkN gB gs)))))))))) ta0 (TxA.kp hT hS497 ta0 rfl rfl rfl (by decide +kernel) (by decide +kernel)) (by (try rw [c503]); first | done | with_reducible assumption | omega) (by (try rw [c503]); first | done | with_reducible assumption | omega) (by (try rw [c504]); first | done | with_reducible assumption | omega) (by (try rw [c505]); first | done | with_reducible assumption | omega) (by (try rw [c490]); first | done | assumption) (by (try rw [c506]); first | done | assumption) (by (try rw [c507]); first | done | assumption) (by (try rw [((hS497.cell ta0 (by decide +kernel)).trans c26)]); first | done | with_reducible assumption | omega) (by first | done | with_reducible assumption | omega)) ?_
                            rintro cn' K' N' I518 R519 L520 ⟨rfl, rfl, rfl, rfl, g521, dj524, -⟩
                            have hM525 : NmM I518 R0 L443 a1 gQ := NmM.kpS hM509 g521 hS497.1 ta1 (by decide +kernel) (by decide +kernel)
                            have hS526 := hS497.tr g521 (by decide +kernel) (by decide +kernel)
                            have c527 : I518 a1 0 = v29 := (g521.cell ta1 (by decide +kernel)).trans c500
                            have c528 : I518 a1 1 = v33 := (g521.cell ta1 (by decide +kernel)).trans c501
                            have hO529 : FrO 14 a1 T I0 I518 := hO508.st g521 (by decide +kernel)
                            rcases dj524 with ⟨p530, p531, p532, p533, p534, p535, p536, p537, p538, gl539, -⟩ | ⟨p540, p541, p542, p543, -⟩
                            · skip
                              have hL544 := hL477.tr gl539 (by decide +kernel)
                              have hM545 : NmM I518 R0 L520 a1 gQ := NmM.kpL hM525 gl539 hS526.1 ta1 (by decide +kernel)
                              obtain ⟨v546, c547⟩ : ∃ v, I518 a0 13 = v := ⟨_, rfl⟩
                              rw [c547] at p531
                              rw [c502] at p531
                              obtain ⟨v548, c549⟩ : ∃ v, I518 a0 9 = v := ⟨_, rfl⟩
                              have b550 := iv15_9 hS526.1 ta0 c549
                              rw [c549] at p532
                              rw [c549] at p533
                              obtain ⟨v551, c552⟩ : ∃ v, I518 a0 10 = v := ⟨_, rfl⟩
                              have b553 := iv15_10 hS526.1 ta0 c552
                              rw [c552] at p534
                              obtain ⟨v554, c555⟩ : ∃ v, I518 a0 11 = v := ⟨_, rfl⟩
                              rw [c555] at p535
                              obtain ⟨y556, c557⟩ : ∃ v, L520 a0 15 = v := ⟨_, rfl⟩
                              rw [c557] at p536
                              obtain ⟨v558, c559⟩ : ∃ v, I518 a0 12 = v := ⟨_, rfl⟩
                              rw [c559] at p537
                              obtain ⟨v560, c561⟩ : ∃ v, I518 a0 8 = v := ⟨_, rfl⟩
                              have b562 := iv15_8 hS526.1 ta0 c561
                              rw [c561] at p538
                              replace hF := hF.neg (by omega)
                              replace hP := hP.neg (by omega)
                              refine tr_aload_n dX12_readAlp_63 rfl ?_
                              refine tr_getR dX12_readAlp_64 fl12_188 (kR15 hS526.1 ta0) d2 ?_
                              refine tr_getR dX12_readAlp_67 fl12_260 (kR14 hS526.1 ta1) d310 ?_
                              refine tr_iload_n dX12_readAlp_70 rfl ?_
                              refine tr_aload_n dX12_readAlp_71 rfl ?_
                              refine q_iconst dX12_readAlp_72 (by decide) ?_
                              intro v563 h564
                              refine q_bipush dX12_readAlp_73 (by decide +kernel) ?_
                              intro v565 h566
                              refine q_callVi hE (M' := mX12_readWhole) (as := [_, _]) dX12_readAlp_75 lk12_161 inX12_readWhole seX12_readWhole myX12_readWhole (by decide) ⟨by decide, by decide⟩ rfl (kR15 hS526.1 ta0) (Nat.le_of_ble_eq_true rfl) rfl rfl (by decide) (by decide) (fk_X12_readWhole hS526.1 (gB) ((tkN gB (tkN gB (tkN gB (tkN gB (tkN gB (tkN gB (tkN gB (tkN gB (tkN gB (tkN gB gs))))))))))) ta0 (TxA.kp hT hS526 ta0 rfl rfl rfl (by decide +kernel) (by decide +kernel)) (by (try rw [c549]); first | done | with_reducible assumption | omega) (by (try rw [c549]); first | done | with_reducible assumption | omega) (by (try rw [c552]); first | done | with_reducible assumption | omega) (by (try rw [c555]); first | done | with_reducible assumption | omega) (by (try rw [c557]); first | done | assumption) (by (try rw [c559]); first | done | assumption) (by (try rw [c561]); first | done | assumption) (by (try rw [((hS526.cell ta0 (by decide +kernel)).trans c26)]); first | done | with_reducible assumption | omega)) ?_
                              rintro v572 cn' K' N' I567 R568 L569 ⟨rfl, rfl, rfl, rfl, g570, dj573, -⟩
                              have hM574 : NmM I567 R0 L520 a1 gQ := NmM.kpS hM545 g570 hS526.1 ta1 (by decide +kernel) (by decide +kernel)
                              have hS575 := hS526.tr g570 (by decide +kernel) (by decide +kernel)
                              have c576 : I567 a1 0 = v29 := (g570.cell ta1 (by decide +kernel)).trans c527
                              have c577 : I567 a1 1 = v33 := (g570.cell ta1 (by decide +kernel)).trans c528
                              have hO578 : FrO 14 a1 T I0 I567 := hO529.st g570 (by decide +kernel)
                              rcases dj573 with ⟨p579, p580, p581, p582, p583, p584, p585, p586, p587, p588, p589, p590, gl591, -⟩ | ⟨p592, p593, p594, p595, p596, -⟩ | ⟨p597, p598, p599, p600, p601, p602, -⟩
                              · skip
                                have hL603 := hL544.tr gl591 (by decide +kernel)
                                have hM604 : NmM I567 R0 L569 a1 gQ := NmM.kpL hM574 gl591 hS575.1 ta1 (by decide +kernel)
                                obtain ⟨v605, c606⟩ : ∃ v, I567 a0 13 = v := ⟨_, rfl⟩
                                rw [c606] at p583
                                rw [c547] at p583
                                obtain ⟨v607, c608⟩ : ∃ v, I567 a0 9 = v := ⟨_, rfl⟩
                                have b609 := iv15_9 hS575.1 ta0 c608
                                rw [c608] at p584
                                rw [c608] at p585
                                obtain ⟨v610, c611⟩ : ∃ v, I567 a0 10 = v := ⟨_, rfl⟩
                                have b612 := iv15_10 hS575.1 ta0 c611
                                rw [c611] at p586
                                obtain ⟨v613, c614⟩ : ∃ v, I567 a0 11 = v := ⟨_, rfl⟩
                                rw [c614] at p587
                                obtain ⟨y615, c616⟩ : ∃ v, L569 a0 15 = v := ⟨_, rfl⟩
                                rw [c616] at p588
                                obtain ⟨v617, c618⟩ : ∃ v, I567 a0 12 = v := ⟨_, rfl⟩
                                rw [c618] at p589
                                obtain ⟨v619, c620⟩ : ∃ v, I567 a0 8 = v := ⟨_, rfl⟩
                                have b621 := iv15_8 hS575.1 ta0 c620
                                rw [c620] at p590
                                replace hF := hF.neg (by omega)
                                replace hP := hP.neg (by omega)
                                replace hF := hF.neg (by omega)
                                replace hP := hP.neg (by omega)
                                refine q_iast dX12_readAlp_78 (kR53 hS575.1 ta309) (ti_in (nR53 hS575.1 ta309) (by omega) (by omega)) hS575 ta309 (iokF rfl) rfl (by rfl) ?_
                                intro I622 hS623 e625 f624
                                have c626 : I622 a1 0 = v29 := (f624 _ _ (fun q => by have z := ta1; rw [q.1, ta309] at z; exact absurd z (by decide))).trans c576
                                have c627 : I622 a1 1 = v33 := (f624 _ _ (fun q => by have z := ta1; rw [q.1, ta309] at z; exact absurd z (by decide))).trans c577
                                have c628 : I622 a0 13 = v605 := (f624 _ _ (fun q => by have z := ta0; rw [q.1, ta309] at z; exact absurd z (by decide))).trans c606
                                have c629 : I622 a0 9 = v607 := (f624 _ _ (fun q => by have z := ta0; rw [q.1, ta309] at z; exact absurd z (by decide))).trans c608
                                have c630 : I622 a0 10 = v610 := (f624 _ _ (fun q => by have z := ta0; rw [q.1, ta309] at z; exact absurd z (by decide))).trans c611
                                have c631 : I622 a0 11 = v613 := (f624 _ _ (fun q => by have z := ta0; rw [q.1, ta309] at z; exact absurd z (by decide))).trans c614
                                have c632 : I622 a0 12 = v617 := (f624 _ _ (fun q => by have z := ta0; rw [q.1, ta309] at z; exact absurd z (by decide))).trans c618
                                have c633 : I622 a0 8 = v619 := (f624 _ _ (fun q => by have z := ta0; rw [q.1, ta309] at z; exact absurd z (by decide))).trans c620
                                have hO634 : FrO 14 a1 T I0 I622 := hO578.put f624 ta309 (Or.inl (by decide))
                                have hM635 : NmM I622 R0 L569 a1 gQ := NmM.kp1 hM604 f624 ta309 rfl rfl hS575.1 ta1
                                refine q_iincE dX12_readAlp_79 rfl (by decide) (by decide) (by intros; omega) ?_
                                intro v636 h637
                                refine tr_goto 48 dX12_readAlp_82 (by decide) ?_
                                refine tr_iload_n dX12_readAlp_48 rfl ?_
                                refine q_iconst dX12_readAlp_49 (by decide) ?_
                                intro v638 h639
                                refine q_icmp_ge 85 dX12_readAlp_50 (by decide) (fun h640 => ?_) (fun h640 => ?_)
                                · skip
                                  exfalso; omega
                                · skip
                                  refine tr_iload_n dX12_readAlp_53 rfl ?_
                                  refine q_if_le 63 dX12_readAlp_54 (by decide) (fun h641 => ?_) (fun h641 => ?_)
                                  · skip
                                    exfalso; omega
                                  · skip
                                    refine tr_aload_n dX12_readAlp_57 rfl ?_
                                    refine q_bipush dX12_readAlp_58 (by decide +kernel) ?_
                                    intro v642 h643
                                    refine q_callVv hE (M' := mX12_needsSign) (as := [_]) dX12_readAlp_60 lk12_257 inX12_needsSign seX12_needsSign myX12_needsSign (by decide) ⟨by decide, by decide⟩ rfl (kR15 hS623.1 ta0) (Nat.le_of_ble_eq_true rfl) rfl rfl (by decide) (by decide) (fk_X12_needsSign hS623.1 (gB) ((tkN gB (tkN gB (tkN gB (tkN gB (tkN gB (tkN gB (tkN gB (tkN gB (tkN gB (tkN gB (tkN gB gs)))))))))))) ta0 (TxA.kp hT hS623 ta0 rfl rfl rfl (by decide +kernel) (by decide +kernel)) (by (try rw [c629]); first | done | with_reducible assumption | omega) (by (try rw [c629]); first | done | with_reducible assumption | omega) (by (try rw [c630]); first | done | with_reducible assumption | omega) (by (try rw [c631]); first | done | with_reducible assumption | omega) (by (try rw [c616]); first | done | assumption) (by (try rw [c632]); first | done | assumption) (by (try rw [c633]); first | done | assumption) (by (try rw [((hS623.cell ta0 (by decide +kernel)).trans c26)]); first | done | with_reducible assumption | omega) (by first | done | with_reducible assumption | omega)) ?_
                                    rintro cn' K' N' I644 R645 L646 ⟨rfl, rfl, rfl, rfl, g647, dj650, -⟩
                                    have hM651 : NmM I644 R0 L569 a1 gQ := NmM.kpS hM635 g647 hS623.1 ta1 (by decide +kernel) (by decide +kernel)
                                    have hS652 := hS623.tr g647 (by decide +kernel) (by decide +kernel)
                                    have c653 : I644 a1 0 = v29 := (g647.cell ta1 (by decide +kernel)).trans c626
                                    have c654 : I644 a1 1 = v33 := (g647.cell ta1 (by decide +kernel)).trans c627
                                    have hO655 : FrO 14 a1 T I0 I644 := hO634.st g647 (by decide +kernel)
                                    rcases dj650 with ⟨p656, p657, p658, p659, p660, p661, p662, p663, p664, gl665, -⟩ | ⟨p666, p667, p668, p669, -⟩
                                    · skip
                                      have hL670 := hL603.tr gl665 (by decide +kernel)
                                      have hM671 : NmM I644 R0 L646 a1 gQ := NmM.kpL hM651 gl665 hS652.1 ta1 (by decide +kernel)
                                      obtain ⟨v672, c673⟩ : ∃ v, I644 a0 13 = v := ⟨_, rfl⟩
                                      rw [c673] at p657
                                      rw [c628] at p657
                                      obtain ⟨v674, c675⟩ : ∃ v, I644 a0 9 = v := ⟨_, rfl⟩
                                      have b676 := iv15_9 hS652.1 ta0 c675
                                      rw [c675] at p658
                                      rw [c675] at p659
                                      obtain ⟨v677, c678⟩ : ∃ v, I644 a0 10 = v := ⟨_, rfl⟩
                                      have b679 := iv15_10 hS652.1 ta0 c678
                                      rw [c678] at p660
                                      obtain ⟨v680, c681⟩ : ∃ v, I644 a0 11 = v := ⟨_, rfl⟩
                                      rw [c681] at p661
                                      obtain ⟨y682, c683⟩ : ∃ v, L646 a0 15 = v := ⟨_, rfl⟩
                                      rw [c683] at p662
                                      obtain ⟨v684, c685⟩ : ∃ v, I644 a0 12 = v := ⟨_, rfl⟩
                                      rw [c685] at p663
                                      obtain ⟨v686, c687⟩ : ∃ v, I644 a0 8 = v := ⟨_, rfl⟩
                                      have b688 := iv15_8 hS652.1 ta0 c687
                                      rw [c687] at p664
                                      replace hF := hF.neg (by omega)
                                      replace hP := hP.neg (by omega)
                                      refine tr_aload_n dX12_readAlp_63 rfl ?_
                                      refine tr_getR dX12_readAlp_64 fl12_188 (kR15 hS652.1 ta0) d2 ?_
                                      refine tr_getR dX12_readAlp_67 fl12_260 (kR14 hS652.1 ta1) d310 ?_
                                      refine tr_iload_n dX12_readAlp_70 rfl ?_
                                      refine tr_aload_n dX12_readAlp_71 rfl ?_
                                      refine q_iconst dX12_readAlp_72 (by decide) ?_
                                      intro v689 h690
                                      refine q_bipush dX12_readAlp_73 (by decide +kernel) ?_
                                      intro v691 h692
                                      refine q_callVi hE (M' := mX12_readWhole) (as := [_, _]) dX12_readAlp_75 lk12_161 inX12_readWhole seX12_readWhole myX12_readWhole (by decide) ⟨by decide, by decide⟩ rfl (kR15 hS652.1 ta0) (Nat.le_of_ble_eq_true rfl) rfl rfl (by decide) (by decide) (fk_X12_readWhole hS652.1 (gB) ((tkN gB (tkN gB (tkN gB (tkN gB (tkN gB (tkN gB (tkN gB (tkN gB (tkN gB (tkN gB (tkN gB (tkN gB gs))))))))))))) ta0 (TxA.kp hT hS652 ta0 rfl rfl rfl (by decide +kernel) (by decide +kernel)) (by (try rw [c675]); first | done | with_reducible assumption | omega) (by (try rw [c675]); first | done | with_reducible assumption | omega) (by (try rw [c678]); first | done | with_reducible assumption | omega) (by (try rw [c681]); first | done | with_reducible assumption | omega) (by (try rw [c683]); first | done | assumption) (by (try rw [c685]); first | done | assumption) (by (try rw [c687]); first | done | assumption) (by (try rw [((hS652.cell ta0 (by decide +kernel)).trans c26)]); first | done | with_reducible assumption | omega)) ?_
                                      rintro v698 cn' K' N' I693 R694 L695 ⟨rfl, rfl, rfl, rfl, g696, dj699, -⟩
                                      have hM700 : NmM I693 R0 L646 a1 gQ := NmM.kpS hM671 g696 hS652.1 ta1 (by decide +kernel) (by decide +kernel)
                                      have hS701 := hS652.tr g696 (by decide +kernel) (by decide +kernel)
                                      have c702 : I693 a1 0 = v29 := (g696.cell ta1 (by decide +kernel)).trans c653
                                      have c703 : I693 a1 1 = v33 := (g696.cell ta1 (by decide +kernel)).trans c654
                                      have hO704 : FrO 14 a1 T I0 I693 := hO655.st g696 (by decide +kernel)
                                      rcases dj699 with ⟨p705, p706, p707, p708, p709, p710, p711, p712, p713, p714, p715, p716, gl717, -⟩ | ⟨p718, p719, p720, p721, p722, -⟩ | ⟨p723, p724, p725, p726, p727, p728, -⟩
                                      · skip
                                        have hL729 := hL670.tr gl717 (by decide +kernel)
                                        have hM730 : NmM I693 R0 L695 a1 gQ := NmM.kpL hM700 gl717 hS701.1 ta1 (by decide +kernel)
                                        obtain ⟨v731, c732⟩ : ∃ v, I693 a0 13 = v := ⟨_, rfl⟩
                                        rw [c732] at p709
                                        rw [c673] at p709
                                        obtain ⟨v733, c734⟩ : ∃ v, I693 a0 9 = v := ⟨_, rfl⟩
                                        have b735 := iv15_9 hS701.1 ta0 c734
                                        rw [c734] at p710
                                        rw [c734] at p711
                                        obtain ⟨v736, c737⟩ : ∃ v, I693 a0 10 = v := ⟨_, rfl⟩
                                        have b738 := iv15_10 hS701.1 ta0 c737
                                        rw [c737] at p712
                                        obtain ⟨v739, c740⟩ : ∃ v, I693 a0 11 = v := ⟨_, rfl⟩
                                        rw [c740] at p713
                                        obtain ⟨y741, c742⟩ : ∃ v, L695 a0 15 = v := ⟨_, rfl⟩
                                        rw [c742] at p714
                                        obtain ⟨v743, c744⟩ : ∃ v, I693 a0 12 = v := ⟨_, rfl⟩
                                        rw [c744] at p715
                                        obtain ⟨v745, c746⟩ : ∃ v, I693 a0 8 = v := ⟨_, rfl⟩
                                        have b747 := iv15_8 hS701.1 ta0 c746
                                        rw [c746] at p716
                                        replace hF := hF.neg (by omega)
                                        replace hP := hP.neg (by omega)
                                        replace hF := hF.neg (by omega)
                                        replace hP := hP.neg (by omega)
                                        refine q_iast dX12_readAlp_78 (kR53 hS701.1 ta309) (ti_in (nR53 hS701.1 ta309) (by omega) (by omega)) hS701 ta309 (iokF rfl) rfl (by rfl) ?_
                                        intro I748 hS749 e751 f750
                                        have c752 : I748 a1 0 = v29 := (f750 _ _ (fun q => by have z := ta1; rw [q.1, ta309] at z; exact absurd z (by decide))).trans c702
                                        have c753 : I748 a1 1 = v33 := (f750 _ _ (fun q => by have z := ta1; rw [q.1, ta309] at z; exact absurd z (by decide))).trans c703
                                        have c754 : I748 a0 13 = v731 := (f750 _ _ (fun q => by have z := ta0; rw [q.1, ta309] at z; exact absurd z (by decide))).trans c732
                                        have c755 : I748 a0 9 = v733 := (f750 _ _ (fun q => by have z := ta0; rw [q.1, ta309] at z; exact absurd z (by decide))).trans c734
                                        have c756 : I748 a0 10 = v736 := (f750 _ _ (fun q => by have z := ta0; rw [q.1, ta309] at z; exact absurd z (by decide))).trans c737
                                        have c757 : I748 a0 11 = v739 := (f750 _ _ (fun q => by have z := ta0; rw [q.1, ta309] at z; exact absurd z (by decide))).trans c740
                                        have c758 : I748 a0 12 = v743 := (f750 _ _ (fun q => by have z := ta0; rw [q.1, ta309] at z; exact absurd z (by decide))).trans c744
                                        have c759 : I748 a0 8 = v745 := (f750 _ _ (fun q => by have z := ta0; rw [q.1, ta309] at z; exact absurd z (by decide))).trans c746
                                        have hO760 : FrO 14 a1 T I0 I748 := hO704.put f750 ta309 (Or.inl (by decide))
                                        have hM761 : NmM I748 R0 L695 a1 gQ := NmM.kp1 hM730 f750 ta309 rfl rfl hS701.1 ta1
                                        refine q_iincE dX12_readAlp_79 rfl (by decide) (by decide) (by intros; omega) ?_
                                        intro v762 h763
                                        refine tr_goto 48 dX12_readAlp_82 (by decide) ?_
                                        refine tr_iload_n dX12_readAlp_48 rfl ?_
                                        refine q_iconst dX12_readAlp_49 (by decide) ?_
                                        intro v764 h765
                                        refine q_icmp_ge 85 dX12_readAlp_50 (by decide) (fun h766 => ?_) (fun h766 => ?_)
                                        · skip
                                          exfalso; omega
                                        · skip
                                          refine tr_iload_n dX12_readAlp_53 rfl ?_
                                          refine q_if_le 63 dX12_readAlp_54 (by decide) (fun h767 => ?_) (fun h767 => ?_)
                                          · skip
                                            exfalso; omega
                                          · skip
                                            refine tr_aload_n dX12_readAlp_57 rfl ?_
                                            refine q_bipush dX12_readAlp_58 (by decide +kernel) ?_
                                            intro v768 h769
                                            refine q_callVv hE (M' := mX12_needsSign) (as := [_]) dX12_readAlp_60 lk12_257 inX12_needsSign seX12_needsSign myX12_needsSign (by decide) ⟨by decide, by decide⟩ rfl (kR15 hS749.1 ta0) (Nat.le_of_ble_eq_true rfl) rfl rfl (by decide) (by decide) (fk_X12_needsSign hS749.1 (gB) ((tkN gB (tkN gB (tkN gB (tkN gB (tkN gB (tkN gB (tkN gB (tkN gB (tkN gB (tkN gB (tkN gB (tkN gB (tkN gB gs)))))))))))))) ta0 (TxA.kp hT hS749 ta0 rfl rfl rfl (by decide +kernel) (by decide +kernel)) (by (try rw [c755]); first | done | with_reducible assumption | omega) (by (try rw [c755]); first | done | with_reducible assumption | omega) (by (try rw [c756]); first | done | with_reducible assumption | omega) (by (try rw [c757]); first | done | with_reducible assumption | omega) (by (try rw [c742]); first | done | assumption) (by (try rw [c758]); first | done | assumption) (by (try rw [c759]); first | done | assumption) (by (try rw [((hS749.cell ta0 (by decide +kernel)).trans c26)]); first | done | with_reducible assumption | omega) (by first | done | with_reducible assumption | omega)) ?_
                                            rintro cn' K' N' I770 R771 L772 ⟨rfl, rfl, rfl, rfl, g773, dj776, -⟩
                                            have hM777 : NmM I770 R0 L695 a1 gQ := NmM.kpS hM761 g773 hS749.1 ta1 (by decide +kernel) (by decide +kernel)
                                            have hS778 := hS749.tr g773 (by decide +kernel) (by decide +kernel)
                                            have c779 : I770 a1 0 = v29 := (g773.cell ta1 (by decide +kernel)).trans c752
                                            have c780 : I770 a1 1 = v33 := (g773.cell ta1 (by decide +kernel)).trans c753
                                            have hO781 : FrO 14 a1 T I0 I770 := hO760.st g773 (by decide +kernel)
                                            rcases dj776 with ⟨p782, p783, p784, p785, p786, p787, p788, p789, p790, gl791, -⟩ | ⟨p792, p793, p794, p795, -⟩
                                            · skip
                                              have hL796 := hL729.tr gl791 (by decide +kernel)
                                              have hM797 : NmM I770 R0 L772 a1 gQ := NmM.kpL hM777 gl791 hS778.1 ta1 (by decide +kernel)
                                              obtain ⟨v798, c799⟩ : ∃ v, I770 a0 13 = v := ⟨_, rfl⟩
                                              rw [c799] at p783
                                              rw [c754] at p783
                                              obtain ⟨v800, c801⟩ : ∃ v, I770 a0 9 = v := ⟨_, rfl⟩
                                              have b802 := iv15_9 hS778.1 ta0 c801
                                              rw [c801] at p784
                                              rw [c801] at p785
                                              obtain ⟨v803, c804⟩ : ∃ v, I770 a0 10 = v := ⟨_, rfl⟩
                                              have b805 := iv15_10 hS778.1 ta0 c804
                                              rw [c804] at p786
                                              obtain ⟨v806, c807⟩ : ∃ v, I770 a0 11 = v := ⟨_, rfl⟩
                                              rw [c807] at p787
                                              obtain ⟨y808, c809⟩ : ∃ v, L772 a0 15 = v := ⟨_, rfl⟩
                                              rw [c809] at p788
                                              obtain ⟨v810, c811⟩ : ∃ v, I770 a0 12 = v := ⟨_, rfl⟩
                                              rw [c811] at p789
                                              obtain ⟨v812, c813⟩ : ∃ v, I770 a0 8 = v := ⟨_, rfl⟩
                                              have b814 := iv15_8 hS778.1 ta0 c813
                                              rw [c813] at p790
                                              replace hF := hF.neg (by omega)
                                              replace hP := hP.neg (by omega)
                                              refine tr_aload_n dX12_readAlp_63 rfl ?_
                                              refine tr_getR dX12_readAlp_64 fl12_188 (kR15 hS778.1 ta0) d2 ?_
                                              refine tr_getR dX12_readAlp_67 fl12_260 (kR14 hS778.1 ta1) d310 ?_
                                              refine tr_iload_n dX12_readAlp_70 rfl ?_
                                              refine tr_aload_n dX12_readAlp_71 rfl ?_
                                              refine q_iconst dX12_readAlp_72 (by decide) ?_
                                              intro v815 h816
                                              refine q_bipush dX12_readAlp_73 (by decide +kernel) ?_
                                              intro v817 h818
                                              refine q_callVi hE (M' := mX12_readWhole) (as := [_, _]) dX12_readAlp_75 lk12_161 inX12_readWhole seX12_readWhole myX12_readWhole (by decide) ⟨by decide, by decide⟩ rfl (kR15 hS778.1 ta0) (Nat.le_of_ble_eq_true rfl) rfl rfl (by decide) (by decide) (fk_X12_readWhole hS778.1 (gB) ((tkN gB (tkN gB (tkN gB (tkN gB (tkN gB (tkN gB (tkN gB (tkN gB (tkN gB (tkN gB (tkN gB (tkN gB (tkN gB (tkN gB gs))))))))))))))) ta0 (TxA.kp hT hS778 ta0 rfl rfl rfl (by decide +kernel) (by decide +kernel)) (by (try rw [c801]); first | done | with_reducible assumption | omega) (by (try rw [c801]); first | done | with_reducible assumption | omega) (by (try rw [c804]); first | done | with_reducible assumption | omega) (by (try rw [c807]); first | done | with_reducible assumption | omega) (by (try rw [c809]); first | done | assumption) (by (try rw [c811]); first | done | assumption) (by (try rw [c813]); first | done | assumption) (by (try rw [((hS778.cell ta0 (by decide +kernel)).trans c26)]); first | done | with_reducible assumption | omega)) ?_
                                              rintro v824 cn' K' N' I819 R820 L821 ⟨rfl, rfl, rfl, rfl, g822, dj825, -⟩
                                              have hM826 : NmM I819 R0 L772 a1 gQ := NmM.kpS hM797 g822 hS778.1 ta1 (by decide +kernel) (by decide +kernel)
                                              have hS827 := hS778.tr g822 (by decide +kernel) (by decide +kernel)
                                              have c828 : I819 a1 0 = v29 := (g822.cell ta1 (by decide +kernel)).trans c779
                                              have c829 : I819 a1 1 = v33 := (g822.cell ta1 (by decide +kernel)).trans c780
                                              have hO830 : FrO 14 a1 T I0 I819 := hO781.st g822 (by decide +kernel)
                                              rcases dj825 with ⟨p831, p832, p833, p834, p835, p836, p837, p838, p839, p840, p841, p842, gl843, -⟩ | ⟨p844, p845, p846, p847, p848, -⟩ | ⟨p849, p850, p851, p852, p853, p854, -⟩
                                              · skip
                                                have hL855 := hL796.tr gl843 (by decide +kernel)
                                                have hM856 : NmM I819 R0 L821 a1 gQ := NmM.kpL hM826 gl843 hS827.1 ta1 (by decide +kernel)
                                                obtain ⟨v857, c858⟩ : ∃ v, I819 a0 13 = v := ⟨_, rfl⟩
                                                rw [c858] at p835
                                                rw [c799] at p835
                                                obtain ⟨v859, c860⟩ : ∃ v, I819 a0 9 = v := ⟨_, rfl⟩
                                                have b861 := iv15_9 hS827.1 ta0 c860
                                                rw [c860] at p836
                                                rw [c860] at p837
                                                obtain ⟨v862, c863⟩ : ∃ v, I819 a0 10 = v := ⟨_, rfl⟩
                                                have b864 := iv15_10 hS827.1 ta0 c863
                                                rw [c863] at p838
                                                obtain ⟨v865, c866⟩ : ∃ v, I819 a0 11 = v := ⟨_, rfl⟩
                                                rw [c866] at p839
                                                obtain ⟨y867, c868⟩ : ∃ v, L821 a0 15 = v := ⟨_, rfl⟩
                                                rw [c868] at p840
                                                obtain ⟨v869, c870⟩ : ∃ v, I819 a0 12 = v := ⟨_, rfl⟩
                                                rw [c870] at p841
                                                obtain ⟨v871, c872⟩ : ∃ v, I819 a0 8 = v := ⟨_, rfl⟩
                                                have b873 := iv15_8 hS827.1 ta0 c872
                                                rw [c872] at p842
                                                replace hF := hF.neg (by omega)
                                                replace hP := hP.neg (by omega)
                                                replace hF := hF.neg (by omega)
                                                replace hP := hP.neg (by omega)
                                                refine q_iast dX12_readAlp_78 (kR53 hS827.1 ta309) (ti_in (nR53 hS827.1 ta309) (by omega) (by omega)) hS827 ta309 (iokF rfl) rfl (by rfl) ?_
                                                intro I874 hS875 e877 f876
                                                have c878 : I874 a1 0 = v29 := (f876 _ _ (fun q => by have z := ta1; rw [q.1, ta309] at z; exact absurd z (by decide))).trans c828
                                                have c879 : I874 a1 1 = v33 := (f876 _ _ (fun q => by have z := ta1; rw [q.1, ta309] at z; exact absurd z (by decide))).trans c829
                                                have c880 : I874 a0 13 = v857 := (f876 _ _ (fun q => by have z := ta0; rw [q.1, ta309] at z; exact absurd z (by decide))).trans c858
                                                have c881 : I874 a0 9 = v859 := (f876 _ _ (fun q => by have z := ta0; rw [q.1, ta309] at z; exact absurd z (by decide))).trans c860
                                                have c882 : I874 a0 10 = v862 := (f876 _ _ (fun q => by have z := ta0; rw [q.1, ta309] at z; exact absurd z (by decide))).trans c863
                                                have c883 : I874 a0 11 = v865 := (f876 _ _ (fun q => by have z := ta0; rw [q.1, ta309] at z; exact absurd z (by decide))).trans c866
                                                have c884 : I874 a0 12 = v869 := (f876 _ _ (fun q => by have z := ta0; rw [q.1, ta309] at z; exact absurd z (by decide))).trans c870
                                                have c885 : I874 a0 8 = v871 := (f876 _ _ (fun q => by have z := ta0; rw [q.1, ta309] at z; exact absurd z (by decide))).trans c872
                                                have hO886 : FrO 14 a1 T I0 I874 := hO830.put f876 ta309 (Or.inl (by decide))
                                                have hM887 : NmM I874 R0 L821 a1 gQ := NmM.kp1 hM856 f876 ta309 rfl rfl hS827.1 ta1
                                                refine q_iincE dX12_readAlp_79 rfl (by decide) (by decide) (by intros; omega) ?_
                                                intro v888 h889
                                                refine tr_goto 48 dX12_readAlp_82 (by decide) ?_
                                                refine tr_iload_n dX12_readAlp_48 rfl ?_
                                                refine q_iconst dX12_readAlp_49 (by decide) ?_
                                                intro v890 h891
                                                refine q_icmp_ge 85 dX12_readAlp_50 (by decide) (fun h892 => ?_) (fun h892 => ?_)
                                                · skip
                                                  refine tr_aload_n dX12_readAlp_85 rfl ?_
                                                  refine q_getI dX12_readAlp_86 fl12_99 (kR15 hS875.1 ta0) c881 ?_
                                                  refine q_iconst dX12_readAlp_89 (by decide) ?_
                                                  intro v893 h894
                                                  refine q_icmp_ne 94 dX12_readAlp_90 (by decide) (fun h895 => ?_) (fun h895 => ?_)
                                                  · skip
                                                    refine tr_aload_n dX12_readAlp_94 rfl ?_
                                                    refine tr_getR dX12_readAlp_95 fl12_188 (kR15 hS875.1 ta0) d2 ?_
                                                    refine tr_iload_n dX12_readAlp_98 rfl ?_
                                                    refine q_putX dX12_readAlp_99 fl12_192 (kR14 hS875.1 ta1) (Or.inl rfl) hS875 ta1 (by decide +kernel) (hS875.1.putM ta1 (by omega)) ?_
                                                    intro I896 hS897 e898 f899
                                                    have c900 : I896 a1 1 = v33 := (f899 _ _ (fun q => absurd q.2 (by decide))).trans c879
                                                    have c901 : I896 a0 13 = v857 := (f899 _ _ (fun q => absurd q.2 (by decide))).trans c880
                                                    have c902 : I896 a0 9 = v859 := (f899 _ _ (fun q => absurd q.2 (by decide))).trans c881
                                                    have c903 : I896 a0 10 = v862 := (f899 _ _ (fun q => absurd q.2 (by decide))).trans c882
                                                    have c904 : I896 a0 11 = v865 := (f899 _ _ (fun q => absurd q.2 (by decide))).trans c883
                                                    have c905 : I896 a0 12 = v869 := (f899 _ _ (fun q => absurd q.2 (by decide))).trans c884
                                                    have c906 : I896 a0 8 = v871 := (f899 _ _ (fun q => absurd q.2 (by decide))).trans c885
                                                    have hO907 : FrO 14 a1 T I0 I896 := hO886.put f899 ta1 (Or.inr rfl)
                                                    have hM908 : NmM I896 R0 L821 a1 gQ := NmM.kp1 hM887 f899 ta1 rfl rfl hS875.1 ta1
                                                    refine tr_aload_n dX12_readAlp_102 rfl ?_
                                                    refine tr_getR dX12_readAlp_103 fl12_188 (kR15 hS897.1 ta0) d2 ?_
                                                    refine tr_iload_n dX12_readAlp_106 rfl ?_
                                                    refine q_putI dX12_readAlp_107 fl12_263 (kR14 hS897.1 ta1) (Or.inl rfl) hS897 ta1 (by show (0 : Int) ≤ v196.toInt ∧ v196.toInt ≤ (4 : Int); omega) rfl (by decide +kernel) ?_
                                                    intro I909 hS910 e911 f912
                                                    have c913 : I909 a0 13 = v857 := (f912 _ _ (fun q => absurd q.2 (by decide))).trans c901
                                                    have c914 : I909 a0 9 = v859 := (f912 _ _ (fun q => absurd q.2 (by decide))).trans c902
                                                    have c915 : I909 a0 10 = v862 := (f912 _ _ (fun q => absurd q.2 (by decide))).trans c903
                                                    have c916 : I909 a0 11 = v865 := (f912 _ _ (fun q => absurd q.2 (by decide))).trans c904
                                                    have c917 : I909 a0 12 = v869 := (f912 _ _ (fun q => absurd q.2 (by decide))).trans c905
                                                    have c918 : I909 a0 8 = v871 := (f912 _ _ (fun q => absurd q.2 (by decide))).trans c906
                                                    have c919 : I909 a1 0 = v126 := (f912 _ _ (fun q => absurd q.2 (by decide))).trans e898
                                                    have hO920 : FrO 14 a1 T I0 I909 := hO907.put f912 ta1 (Or.inr rfl)
                                                    have hM921 : NmM I909 R0 L821 a1 gQ := NmM.kp1 hM908 f912 ta1 rfl rfl hS897.1 ta1
                                                    have eF := hF.eq
                                                    have eP := hP.eq
                                                    obtain ⟨v922, c923⟩ : ∃ v, I909 a0 14 = v := ⟨_, rfl⟩
                                                    exact tr_vret hZ dX12_readAlp_110 rfl (by decide) (by decide) ⟨rfl, rfl, rfl, rfl, rfl, hS910, (fun dr hd => (Option.some.inj (d2.symm.trans hd)) ▸ hO920), (Or.inl ⟨(by (try rw [w107]); first | done | with_reducible assumption | omega), (fun q0 z0 => by obtain rfl := Option.some.inj ((d2).symm.trans z0); (try rw [w107]); (try rw [c919]); first | done | with_reducible assumption | omega), (fun q0 z0 => by obtain rfl := Option.some.inj ((d2).symm.trans z0); (try rw [w107]); (try rw [e911]); first | done | with_reducible assumption | omega), (fun q0 z0 => by obtain rfl := Option.some.inj ((d2).symm.trans z0); (try rw [w107]); (try rw [((hS910.cell ta1 (by decide +kernel)).trans c38)]); first | done | with_reducible assumption | omega), (fun q0 z0 => by obtain rfl := Option.some.inj ((d2).symm.trans z0); (try rw [w107]); (try rw [((hS910.cell ta1 (by decide +kernel)).trans c42)]); first | done | with_reducible assumption | omega), (fun q0 z0 => by obtain rfl := Option.some.inj ((d2).symm.trans z0); (try rw [w107]); (try rw [((hS910.cell ta1 (by decide +kernel)).trans c46)]); first | done | with_reducible assumption | omega), (fun q0 z0 => by obtain rfl := Option.some.inj ((d2).symm.trans z0); (try rw [w107]); (try rw [((hS910.cell ta1 (by decide +kernel)).trans c50)]); first | done | with_reducible assumption | omega), (fun q0 z0 => by obtain rfl := Option.some.inj ((d2).symm.trans z0); (try rw [w107]); (try rw [((hS910.cell ta1 (by decide +kernel)).trans c54)]); first | done | with_reducible assumption | omega), (fun q0 z0 => by obtain rfl := Option.some.inj ((d2).symm.trans z0); (try rw [w107]); (try rw [((hS910.cell ta1 (by decide +kernel)).trans c58)]); first | done | with_reducible assumption | omega), (by (try rw [w107]); (try rw [c913]); (try rw [c65]); first | done | with_reducible assumption | omega), (by (try rw [w107]); (try rw [c914]); first | done | with_reducible assumption | omega), (by (try rw [w107]); (try rw [c914]); first | done | with_reducible assumption | omega), (by (try rw [w107]); (try rw [c915]); first | done | with_reducible assumption | omega), (by (try rw [w107]); (try rw [c916]); first | done | with_reducible assumption | omega), (by (try rw [w107]); (try rw [c868]); first | done | assumption), (by (try rw [w107]); (try rw [c917]); first | done | assumption), (by (try rw [w107]); (try rw [c918]); first | done | assumption), hL855, (fun b hb => (Option.some.inj (d2.symm.trans hb)) ▸ NmM.ln (NmM.bd (k := srt gB gs) hM921 (by omega) (by omega)) rfl), trivial⟩), trivial⟩
                                                  · skip
                                                    exfalso; omega
                                                · skip
                                                  exfalso; omega
                                              · skip
                                                obtain ⟨v924, c925⟩ : ∃ v, I819 a0 9 = v := ⟨_, rfl⟩
                                                have b926 := iv15_9 hS827.1 ta0 c925
                                                rw [c925] at p846
                                                obtain ⟨v927, c928⟩ : ∃ v, I819 a0 13 = v := ⟨_, rfl⟩
                                                rw [c928] at p847
                                                obtain ⟨v929, c930⟩ : ∃ v, I819 a0 14 = v := ⟨_, rfl⟩
                                                rw [c930] at p848
                                                replace hF := hF.pos (by omega)
                                                replace hP := hP.pos (by omega)
                                                refine q_iast dX12_readAlp_78 (kR53 hS827.1 ta309) (ti_in (nR53 hS827.1 ta309) (by omega) (by omega)) hS827 ta309 (iokF rfl) rfl (by rfl) ?_
                                                intro I931 hS932 e934 f933
                                                have c935 : I931 a1 0 = v29 := (f933 _ _ (fun q => by have z := ta1; rw [q.1, ta309] at z; exact absurd z (by decide))).trans c828
                                                have c936 : I931 a1 1 = v33 := (f933 _ _ (fun q => by have z := ta1; rw [q.1, ta309] at z; exact absurd z (by decide))).trans c829
                                                have c937 : I931 a0 9 = v924 := (f933 _ _ (fun q => by have z := ta0; rw [q.1, ta309] at z; exact absurd z (by decide))).trans c925
                                                have c938 : I931 a0 13 = v927 := (f933 _ _ (fun q => by have z := ta0; rw [q.1, ta309] at z; exact absurd z (by decide))).trans c928
                                                have c939 : I931 a0 14 = v929 := (f933 _ _ (fun q => by have z := ta0; rw [q.1, ta309] at z; exact absurd z (by decide))).trans c930
                                                have hO940 : FrO 14 a1 T I0 I931 := hO830.put f933 ta309 (Or.inl (by decide))
                                                refine q_iincE dX12_readAlp_79 rfl (by decide) (by decide) (by intros; omega) ?_
                                                intro v941 h942
                                                refine tr_goto 48 dX12_readAlp_82 (by decide) ?_
                                                refine tr_iload_n dX12_readAlp_48 rfl ?_
                                                refine q_iconst dX12_readAlp_49 (by decide) ?_
                                                intro v943 h944
                                                refine q_icmp_ge 85 dX12_readAlp_50 (by decide) (fun h945 => ?_) (fun h945 => ?_)
                                                · skip
                                                  refine tr_aload_n dX12_readAlp_85 rfl ?_
                                                  refine q_getI dX12_readAlp_86 fl12_99 (kR15 hS932.1 ta0) c937 ?_
                                                  refine q_iconst dX12_readAlp_89 (by decide) ?_
                                                  intro v946 h947
                                                  refine q_icmp_ne 94 dX12_readAlp_90 (by decide) (fun h948 => ?_) (fun h948 => ?_)
                                                  · skip
                                                    exfalso; omega
                                                  · skip
                                                    have eF := hF.eq
                                                    have eP := hP.eq
                                                    obtain ⟨v949, c950⟩ : ∃ v, I931 a0 10 = v := ⟨_, rfl⟩
                                                    have b951 := iv15_10 hS932.1 ta0 c950
                                                    obtain ⟨v952, c953⟩ : ∃ v, I931 a0 11 = v := ⟨_, rfl⟩
                                                    obtain ⟨y954, c955⟩ : ∃ v, L821 a0 15 = v := ⟨_, rfl⟩
                                                    obtain ⟨v956, c957⟩ : ∃ v, I931 a0 12 = v := ⟨_, rfl⟩
                                                    obtain ⟨v958, c959⟩ : ∃ v, I931 a0 8 = v := ⟨_, rfl⟩
                                                    have b960 := iv15_8 hS932.1 ta0 c959
                                                    exact tr_vret hZ dX12_readAlp_93 rfl (by decide) (by decide) ⟨rfl, rfl, rfl, rfl, rfl, hS932, (fun dr hd => (Option.some.inj (d2.symm.trans hd)) ▸ hO940), (Or.inr (⟨(by (try rw [w107]); first | done | with_reducible assumption | omega), (by (try rw [w107]); (try rw [c937]); first | done | with_reducible assumption | omega), (by (try rw [w107]); (try rw [c938]); first | done | with_reducible assumption | omega), (by (try rw [w107]); (try rw [c939]); first | done | with_reducible assumption | omega), trivial⟩)), trivial⟩
                                                · skip
                                                  exfalso; omega
                                              · skip
                                                obtain ⟨v961, c962⟩ : ∃ v, I819 a0 9 = v := ⟨_, rfl⟩
                                                have b963 := iv15_9 hS827.1 ta0 c962
                                                rw [c962] at p852
                                                obtain ⟨v964, c965⟩ : ∃ v, I819 a0 13 = v := ⟨_, rfl⟩
                                                rw [c965] at p853
                                                obtain ⟨v966, c967⟩ : ∃ v, I819 a0 14 = v := ⟨_, rfl⟩
                                                rw [c967] at p854
                                                replace hF := hF.neg (by omega)
                                                replace hP := hP.neg (by omega)
                                                replace hF := hF.pos (by omega)
                                                replace hP := hP.pos (by omega)
                                                refine q_iast dX12_readAlp_78 (kR53 hS827.1 ta309) (ti_in (nR53 hS827.1 ta309) (by omega) (by omega)) hS827 ta309 (iokF rfl) rfl (by rfl) ?_
                                                intro I968 hS969 e971 f970
                                                have c972 : I968 a1 0 = v29 := (f970 _ _ (fun q => by have z := ta1; rw [q.1, ta309] at z; exact absurd z (by decide))).trans c828
                                                have c973 : I968 a1 1 = v33 := (f970 _ _ (fun q => by have z := ta1; rw [q.1, ta309] at z; exact absurd z (by decide))).trans c829
                                                have c974 : I968 a0 9 = v961 := (f970 _ _ (fun q => by have z := ta0; rw [q.1, ta309] at z; exact absurd z (by decide))).trans c962
                                                have c975 : I968 a0 13 = v964 := (f970 _ _ (fun q => by have z := ta0; rw [q.1, ta309] at z; exact absurd z (by decide))).trans c965
                                                have c976 : I968 a0 14 = v966 := (f970 _ _ (fun q => by have z := ta0; rw [q.1, ta309] at z; exact absurd z (by decide))).trans c967
                                                have hO977 : FrO 14 a1 T I0 I968 := hO830.put f970 ta309 (Or.inl (by decide))
                                                refine q_iincE dX12_readAlp_79 rfl (by decide) (by decide) (by intros; omega) ?_
                                                intro v978 h979
                                                refine tr_goto 48 dX12_readAlp_82 (by decide) ?_
                                                refine tr_iload_n dX12_readAlp_48 rfl ?_
                                                refine q_iconst dX12_readAlp_49 (by decide) ?_
                                                intro v980 h981
                                                refine q_icmp_ge 85 dX12_readAlp_50 (by decide) (fun h982 => ?_) (fun h982 => ?_)
                                                · skip
                                                  refine tr_aload_n dX12_readAlp_85 rfl ?_
                                                  refine q_getI dX12_readAlp_86 fl12_99 (kR15 hS969.1 ta0) c974 ?_
                                                  refine q_iconst dX12_readAlp_89 (by decide) ?_
                                                  intro v983 h984
                                                  refine q_icmp_ne 94 dX12_readAlp_90 (by decide) (fun h985 => ?_) (fun h985 => ?_)
                                                  · skip
                                                    exfalso; omega
                                                  · skip
                                                    have eF := hF.eq
                                                    have eP := hP.eq
                                                    obtain ⟨v986, c987⟩ : ∃ v, I968 a0 10 = v := ⟨_, rfl⟩
                                                    have b988 := iv15_10 hS969.1 ta0 c987
                                                    obtain ⟨v989, c990⟩ : ∃ v, I968 a0 11 = v := ⟨_, rfl⟩
                                                    obtain ⟨y991, c992⟩ : ∃ v, L821 a0 15 = v := ⟨_, rfl⟩
                                                    obtain ⟨v993, c994⟩ : ∃ v, I968 a0 12 = v := ⟨_, rfl⟩
                                                    obtain ⟨v995, c996⟩ : ∃ v, I968 a0 8 = v := ⟨_, rfl⟩
                                                    have b997 := iv15_8 hS969.1 ta0 c996
                                                    exact tr_vret hZ dX12_readAlp_93 rfl (by decide) (by decide) ⟨rfl, rfl, rfl, rfl, rfl, hS969, (fun dr hd => (Option.some.inj (d2.symm.trans hd)) ▸ hO977), (Or.inr (⟨(by (try rw [w107]); first | done | with_reducible assumption | omega), (by (try rw [w107]); (try rw [c974]); first | done | with_reducible assumption | omega), (by (try rw [w107]); (try rw [c975]); first | done | with_reducible assumption | omega), (by (try rw [w107]); (try rw [c976]); first | done | with_reducible assumption | omega), trivial⟩)), trivial⟩
                                                · skip
                                                  exfalso; omega
                                            · skip
                                              obtain ⟨v998, c999⟩ : ∃ v, I770 a0 9 = v := ⟨_, rfl⟩
                                              have b1000 := iv15_9 hS778.1 ta0 c999
                                              rw [c999] at p793
                                              obtain ⟨v1001, c1002⟩ : ∃ v, I770 a0 13 = v := ⟨_, rfl⟩
                                              rw [c1002] at p794
                                              obtain ⟨v1003, c1004⟩ : ∃ v, I770 a0 14 = v := ⟨_, rfl⟩
                                              rw [c1004] at p795
                                              replace hF := hF.pos (by omega)
                                              replace hP := hP.pos (by omega)
                                              refine tr_aload_n dX12_readAlp_63 rfl ?_
                                              refine tr_getR dX12_readAlp_64 fl12_188 (kR15 hS778.1 ta0) d2 ?_
                                              refine tr_getR dX12_readAlp_67 fl12_260 (kR14 hS778.1 ta1) d310 ?_
                                              refine tr_iload_n dX12_readAlp_70 rfl ?_
                                              refine tr_aload_n dX12_readAlp_71 rfl ?_
                                              refine q_iconst dX12_readAlp_72 (by decide) ?_
                                              intro v1005 h1006
                                              refine q_bipush dX12_readAlp_73 (by decide +kernel) ?_
                                              intro v1007 h1008
                                              refine q_callVi hE (M' := mX12_readWhole) (as := [_, _]) dX12_readAlp_75 lk12_161 inX12_readWhole seX12_readWhole myX12_readWhole (by decide) ⟨by decide, by decide⟩ rfl (kR15 hS778.1 ta0) (Nat.le_of_ble_eq_true rfl) rfl rfl (by decide) (by decide) (k_X12_readWhole hS778.1 ta0) ?_
                                              rintro v1013 cn' K' N' I1009 R1010 L1011 ⟨rfl, rfl, rfl, rfl, g1012, p1014, w1015, -⟩
                                              have hS1016 := hS778.tr g1012 (by decide +kernel) (by decide +kernel)
                                              have c1017 : I1009 a1 0 = v29 := (g1012.cell ta1 (by decide +kernel)).trans c779
                                              have c1018 : I1009 a1 1 = v33 := (g1012.cell ta1 (by decide +kernel)).trans c780
                                              have b1019 : 0 ≤ v1013.toInt ∧ v1013.toInt ≤ 99 := by omega
                                              clear p1014
                                              have hO1020 : FrO 14 a1 T I0 I1009 := hO781.st g1012 (by decide +kernel)
                                              have ov1021 := w1015.over (by rw [c999]; omega)
                                              obtain ⟨v1022, c1023⟩ : ∃ v, I1009 a0 9 = v := ⟨_, rfl⟩
                                              have b1024 := iv15_9 hS1016.1 ta0 c1023
                                              obtain ⟨v1025, c1026⟩ : ∃ v, I1009 a0 13 = v := ⟨_, rfl⟩
                                              obtain ⟨v1027, c1028⟩ : ∃ v, I1009 a0 14 = v := ⟨_, rfl⟩
                                              (try rw [c1023] at ov1021)
                                              (try rw [c1026] at ov1021)
                                              (try rw [c1028] at ov1021)
                                              (try rw [c999] at ov1021)
                                              (try rw [c1002] at ov1021)
                                              (try rw [c1004] at ov1021)
                                              refine q_iast dX12_readAlp_78 (kR53 hS1016.1 ta309) (ti_in (nR53 hS1016.1 ta309) (by omega) (by omega)) hS1016 ta309 (iokF rfl) rfl (by rfl) ?_
                                              intro I1029 hS1030 e1032 f1031
                                              have c1033 : I1029 a1 0 = v29 := (f1031 _ _ (fun q => by have z := ta1; rw [q.1, ta309] at z; exact absurd z (by decide))).trans c1017
                                              have c1034 : I1029 a1 1 = v33 := (f1031 _ _ (fun q => by have z := ta1; rw [q.1, ta309] at z; exact absurd z (by decide))).trans c1018
                                              have c1035 : I1029 a0 9 = v1022 := (f1031 _ _ (fun q => by have z := ta0; rw [q.1, ta309] at z; exact absurd z (by decide))).trans c1023
                                              have c1036 : I1029 a0 13 = v1025 := (f1031 _ _ (fun q => by have z := ta0; rw [q.1, ta309] at z; exact absurd z (by decide))).trans c1026
                                              have c1037 : I1029 a0 14 = v1027 := (f1031 _ _ (fun q => by have z := ta0; rw [q.1, ta309] at z; exact absurd z (by decide))).trans c1028
                                              have hO1038 : FrO 14 a1 T I0 I1029 := hO1020.put f1031 ta309 (Or.inl (by decide))
                                              refine q_iincE dX12_readAlp_79 rfl (by decide) (by decide) (by intros; omega) ?_
                                              intro v1039 h1040
                                              refine tr_goto 48 dX12_readAlp_82 (by decide) ?_
                                              refine tr_iload_n dX12_readAlp_48 rfl ?_
                                              refine q_iconst dX12_readAlp_49 (by decide) ?_
                                              intro v1041 h1042
                                              refine q_icmp_ge 85 dX12_readAlp_50 (by decide) (fun h1043 => ?_) (fun h1043 => ?_)
                                              · skip
                                                refine tr_aload_n dX12_readAlp_85 rfl ?_
                                                refine q_getI dX12_readAlp_86 fl12_99 (kR15 hS1030.1 ta0) c1035 ?_
                                                refine q_iconst dX12_readAlp_89 (by decide) ?_
                                                intro v1044 h1045
                                                refine q_icmp_ne 94 dX12_readAlp_90 (by decide) (fun h1046 => ?_) (fun h1046 => ?_)
                                                · skip
                                                  exfalso; omega
                                                · skip
                                                  have eF := hF.eq
                                                  have eP := hP.eq
                                                  obtain ⟨v1047, c1048⟩ : ∃ v, I1029 a0 10 = v := ⟨_, rfl⟩
                                                  have b1049 := iv15_10 hS1030.1 ta0 c1048
                                                  obtain ⟨v1050, c1051⟩ : ∃ v, I1029 a0 11 = v := ⟨_, rfl⟩
                                                  obtain ⟨y1052, c1053⟩ : ∃ v, L1011 a0 15 = v := ⟨_, rfl⟩
                                                  obtain ⟨v1054, c1055⟩ : ∃ v, I1029 a0 12 = v := ⟨_, rfl⟩
                                                  obtain ⟨v1056, c1057⟩ : ∃ v, I1029 a0 8 = v := ⟨_, rfl⟩
                                                  have b1058 := iv15_8 hS1030.1 ta0 c1057
                                                  exact tr_vret hZ dX12_readAlp_93 rfl (by decide) (by decide) ⟨rfl, rfl, rfl, rfl, rfl, hS1030, (fun dr hd => (Option.some.inj (d2.symm.trans hd)) ▸ hO1038), (Or.inr (⟨(by (try rw [w107]); first | done | with_reducible assumption | omega), (by (try rw [w107]); (try rw [c1035]); first | done | with_reducible assumption | omega), (by (try rw [w107]); (try rw [c1036]); first | done | with_reducible assumption | omega), (by (try rw [w107]); (try rw [c1037]); first | done | with_reducible assumption | omega), trivial⟩)), trivial⟩
                                              · skip
                                                exfalso; omega
                                      · skip
                                        obtain ⟨v1059, c1060⟩ : ∃ v, I693 a0 9 = v := ⟨_, rfl⟩
                                        have b1061 := iv15_9 hS701.1 ta0 c1060
                                        rw [c1060] at p720
                                        obtain ⟨v1062, c1063⟩ : ∃ v, I693 a0 13 = v := ⟨_, rfl⟩
                                        rw [c1063] at p721
                                        obtain ⟨v1064, c1065⟩ : ∃ v, I693 a0 14 = v := ⟨_, rfl⟩
                                        rw [c1065] at p722
                                        replace hF := hF.pos (by omega)
                                        replace hP := hP.pos (by omega)
                                        refine q_iast dX12_readAlp_78 (kR53 hS701.1 ta309) (ti_in (nR53 hS701.1 ta309) (by omega) (by omega)) hS701 ta309 (iokF rfl) rfl (by rfl) ?_
                                        intro I1066 hS1067 e1069 f1068
                                        have c1070 : I1066 a1 0 = v29 := (f1068 _ _ (fun q => by have z := ta1; rw [q.1, ta309] at z; exact absurd z (by decide))).trans c702
                                        have c1071 : I1066 a1 1 = v33 := (f1068 _ _ (fun q => by have z := ta1; rw [q.1, ta309] at z; exact absurd z (by decide))).trans c703
                                        have c1072 : I1066 a0 9 = v1059 := (f1068 _ _ (fun q => by have z := ta0; rw [q.1, ta309] at z; exact absurd z (by decide))).trans c1060
                                        have c1073 : I1066 a0 13 = v1062 := (f1068 _ _ (fun q => by have z := ta0; rw [q.1, ta309] at z; exact absurd z (by decide))).trans c1063
                                        have c1074 : I1066 a0 14 = v1064 := (f1068 _ _ (fun q => by have z := ta0; rw [q.1, ta309] at z; exact absurd z (by decide))).trans c1065
                                        have hO1075 : FrO 14 a1 T I0 I1066 := hO704.put f1068 ta309 (Or.inl (by decide))
                                        refine q_iincE dX12_readAlp_79 rfl (by decide) (by decide) (by intros; omega) ?_
                                        intro v1076 h1077
                                        refine tr_goto 48 dX12_readAlp_82 (by decide) ?_
                                        refine tr_iload_n dX12_readAlp_48 rfl ?_
                                        refine q_iconst dX12_readAlp_49 (by decide) ?_
                                        intro v1078 h1079
                                        refine q_icmp_ge 85 dX12_readAlp_50 (by decide) (fun h1080 => ?_) (fun h1080 => ?_)
                                        · skip
                                          exfalso; omega
                                        · skip
                                          refine tr_iload_n dX12_readAlp_53 rfl ?_
                                          refine q_if_le 63 dX12_readAlp_54 (by decide) (fun h1081 => ?_) (fun h1081 => ?_)
                                          · skip
                                            exfalso; omega
                                          · skip
                                            refine tr_aload_n dX12_readAlp_57 rfl ?_
                                            refine q_bipush dX12_readAlp_58 (by decide +kernel) ?_
                                            intro v1082 h1083
                                            refine q_callVv hE (M' := mX12_needsSign) (as := [_]) dX12_readAlp_60 lk12_257 inX12_needsSign seX12_needsSign myX12_needsSign (by decide) ⟨by decide, by decide⟩ rfl (kR15 hS1067.1 ta0) (Nat.le_of_ble_eq_true rfl) rfl rfl (by decide) (by decide) (k_X12_needsSign hS1067.1 ta0) ?_
                                            rintro cn' K' N' I1084 R1085 L1086 ⟨rfl, rfl, rfl, rfl, g1087, w1089, -⟩
                                            have hS1090 := hS1067.tr g1087 (by decide +kernel) (by decide +kernel)
                                            have c1091 : I1084 a1 0 = v29 := (g1087.cell ta1 (by decide +kernel)).trans c1070
                                            have c1092 : I1084 a1 1 = v33 := (g1087.cell ta1 (by decide +kernel)).trans c1071
                                            have hO1093 : FrO 14 a1 T I0 I1084 := hO1075.st g1087 (by decide +kernel)
                                            have ov1094 := w1089.over (by rw [c1072]; omega)
                                            obtain ⟨v1095, c1096⟩ : ∃ v, I1084 a0 9 = v := ⟨_, rfl⟩
                                            have b1097 := iv15_9 hS1090.1 ta0 c1096
                                            obtain ⟨v1098, c1099⟩ : ∃ v, I1084 a0 13 = v := ⟨_, rfl⟩
                                            obtain ⟨v1100, c1101⟩ : ∃ v, I1084 a0 14 = v := ⟨_, rfl⟩
                                            (try rw [c1096] at ov1094)
                                            (try rw [c1099] at ov1094)
                                            (try rw [c1101] at ov1094)
                                            (try rw [c1072] at ov1094)
                                            (try rw [c1073] at ov1094)
                                            (try rw [c1074] at ov1094)
                                            refine tr_aload_n dX12_readAlp_63 rfl ?_
                                            refine tr_getR dX12_readAlp_64 fl12_188 (kR15 hS1090.1 ta0) d2 ?_
                                            refine tr_getR dX12_readAlp_67 fl12_260 (kR14 hS1090.1 ta1) d310 ?_
                                            refine tr_iload_n dX12_readAlp_70 rfl ?_
                                            refine tr_aload_n dX12_readAlp_71 rfl ?_
                                            refine q_iconst dX12_readAlp_72 (by decide) ?_
                                            intro v1102 h1103
                                            refine q_bipush dX12_readAlp_73 (by decide +kernel) ?_
                                            intro v1104 h1105
                                            refine q_callVi hE (M' := mX12_readWhole) (as := [_, _]) dX12_readAlp_75 lk12_161 inX12_readWhole seX12_readWhole myX12_readWhole (by decide) ⟨by decide, by decide⟩ rfl (kR15 hS1090.1 ta0) (Nat.le_of_ble_eq_true rfl) rfl rfl (by decide) (by decide) (k_X12_readWhole hS1090.1 ta0) ?_
                                            rintro v1110 cn' K' N' I1106 R1107 L1108 ⟨rfl, rfl, rfl, rfl, g1109, p1111, w1112, -⟩
                                            have hS1113 := hS1090.tr g1109 (by decide +kernel) (by decide +kernel)
                                            have c1114 : I1106 a1 0 = v29 := (g1109.cell ta1 (by decide +kernel)).trans c1091
                                            have c1115 : I1106 a1 1 = v33 := (g1109.cell ta1 (by decide +kernel)).trans c1092
                                            have b1116 : 0 ≤ v1110.toInt ∧ v1110.toInt ≤ 99 := by omega
                                            clear p1111
                                            have hO1117 : FrO 14 a1 T I0 I1106 := hO1093.st g1109 (by decide +kernel)
                                            have ov1118 := w1112.over (by rw [c1096]; omega)
                                            obtain ⟨v1119, c1120⟩ : ∃ v, I1106 a0 9 = v := ⟨_, rfl⟩
                                            have b1121 := iv15_9 hS1113.1 ta0 c1120
                                            obtain ⟨v1122, c1123⟩ : ∃ v, I1106 a0 13 = v := ⟨_, rfl⟩
                                            obtain ⟨v1124, c1125⟩ : ∃ v, I1106 a0 14 = v := ⟨_, rfl⟩
                                            (try rw [c1120] at ov1118)
                                            (try rw [c1123] at ov1118)
                                            (try rw [c1125] at ov1118)
                                            (try rw [c1096] at ov1118)
                                            (try rw [c1099] at ov1118)
                                            (try rw [c1101] at ov1118)
                                            refine q_iast dX12_readAlp_78 (kR53 hS1113.1 ta309) (ti_in (nR53 hS1113.1 ta309) (by omega) (by omega)) hS1113 ta309 (iokF rfl) rfl (by rfl) ?_
                                            intro I1126 hS1127 e1129 f1128
                                            have c1130 : I1126 a1 0 = v29 := (f1128 _ _ (fun q => by have z := ta1; rw [q.1, ta309] at z; exact absurd z (by decide))).trans c1114
                                            have c1131 : I1126 a1 1 = v33 := (f1128 _ _ (fun q => by have z := ta1; rw [q.1, ta309] at z; exact absurd z (by decide))).trans c1115
                                            have c1132 : I1126 a0 9 = v1119 := (f1128 _ _ (fun q => by have z := ta0; rw [q.1, ta309] at z; exact absurd z (by decide))).trans c1120
                                            have c1133 : I1126 a0 13 = v1122 := (f1128 _ _ (fun q => by have z := ta0; rw [q.1, ta309] at z; exact absurd z (by decide))).trans c1123
                                            have c1134 : I1126 a0 14 = v1124 := (f1128 _ _ (fun q => by have z := ta0; rw [q.1, ta309] at z; exact absurd z (by decide))).trans c1125
                                            have hO1135 : FrO 14 a1 T I0 I1126 := hO1117.put f1128 ta309 (Or.inl (by decide))
                                            refine q_iincE dX12_readAlp_79 rfl (by decide) (by decide) (by intros; omega) ?_
                                            intro v1136 h1137
                                            refine tr_goto 48 dX12_readAlp_82 (by decide) ?_
                                            refine tr_iload_n dX12_readAlp_48 rfl ?_
                                            refine q_iconst dX12_readAlp_49 (by decide) ?_
                                            intro v1138 h1139
                                            refine q_icmp_ge 85 dX12_readAlp_50 (by decide) (fun h1140 => ?_) (fun h1140 => ?_)
                                            · skip
                                              refine tr_aload_n dX12_readAlp_85 rfl ?_
                                              refine q_getI dX12_readAlp_86 fl12_99 (kR15 hS1127.1 ta0) c1132 ?_
                                              refine q_iconst dX12_readAlp_89 (by decide) ?_
                                              intro v1141 h1142
                                              refine q_icmp_ne 94 dX12_readAlp_90 (by decide) (fun h1143 => ?_) (fun h1143 => ?_)
                                              · skip
                                                exfalso; omega
                                              · skip
                                                have eF := hF.eq
                                                have eP := hP.eq
                                                obtain ⟨v1144, c1145⟩ : ∃ v, I1126 a0 10 = v := ⟨_, rfl⟩
                                                have b1146 := iv15_10 hS1127.1 ta0 c1145
                                                obtain ⟨v1147, c1148⟩ : ∃ v, I1126 a0 11 = v := ⟨_, rfl⟩
                                                obtain ⟨y1149, c1150⟩ : ∃ v, L1108 a0 15 = v := ⟨_, rfl⟩
                                                obtain ⟨v1151, c1152⟩ : ∃ v, I1126 a0 12 = v := ⟨_, rfl⟩
                                                obtain ⟨v1153, c1154⟩ : ∃ v, I1126 a0 8 = v := ⟨_, rfl⟩
                                                have b1155 := iv15_8 hS1127.1 ta0 c1154
                                                exact tr_vret hZ dX12_readAlp_93 rfl (by decide) (by decide) ⟨rfl, rfl, rfl, rfl, rfl, hS1127, (fun dr hd => (Option.some.inj (d2.symm.trans hd)) ▸ hO1135), (Or.inr (⟨(by (try rw [w107]); first | done | with_reducible assumption | omega), (by (try rw [w107]); (try rw [c1132]); first | done | with_reducible assumption | omega), (by (try rw [w107]); (try rw [c1133]); first | done | with_reducible assumption | omega), (by (try rw [w107]); (try rw [c1134]); first | done | with_reducible assumption | omega), trivial⟩)), trivial⟩
                                            · skip
                                              exfalso; omega
                                      · skip
                                        obtain ⟨v1156, c1157⟩ : ∃ v, I693 a0 9 = v := ⟨_, rfl⟩
                                        have b1158 := iv15_9 hS701.1 ta0 c1157
                                        rw [c1157] at p726
                                        obtain ⟨v1159, c1160⟩ : ∃ v, I693 a0 13 = v := ⟨_, rfl⟩
                                        rw [c1160] at p727
                                        obtain ⟨v1161, c1162⟩ : ∃ v, I693 a0 14 = v := ⟨_, rfl⟩
                                        rw [c1162] at p728
                                        replace hF := hF.neg (by omega)
                                        replace hP := hP.neg (by omega)
                                        replace hF := hF.pos (by omega)
                                        replace hP := hP.pos (by omega)
                                        refine q_iast dX12_readAlp_78 (kR53 hS701.1 ta309) (ti_in (nR53 hS701.1 ta309) (by omega) (by omega)) hS701 ta309 (iokF rfl) rfl (by rfl) ?_
                                        intro I1163 hS1164 e1166 f1165
                                        have c1167 : I1163 a1 0 = v29 := (f1165 _ _ (fun q => by have z := ta1; rw [q.1, ta309] at z; exact absurd z (by decide))).trans c702
                                        have c1168 : I1163 a1 1 = v33 := (f1165 _ _ (fun q => by have z := ta1; rw [q.1, ta309] at z; exact absurd z (by decide))).trans c703
                                        have c1169 : I1163 a0 9 = v1156 := (f1165 _ _ (fun q => by have z := ta0; rw [q.1, ta309] at z; exact absurd z (by decide))).trans c1157
                                        have c1170 : I1163 a0 13 = v1159 := (f1165 _ _ (fun q => by have z := ta0; rw [q.1, ta309] at z; exact absurd z (by decide))).trans c1160
                                        have c1171 : I1163 a0 14 = v1161 := (f1165 _ _ (fun q => by have z := ta0; rw [q.1, ta309] at z; exact absurd z (by decide))).trans c1162
                                        have hO1172 : FrO 14 a1 T I0 I1163 := hO704.put f1165 ta309 (Or.inl (by decide))
                                        refine q_iincE dX12_readAlp_79 rfl (by decide) (by decide) (by intros; omega) ?_
                                        intro v1173 h1174
                                        refine tr_goto 48 dX12_readAlp_82 (by decide) ?_
                                        refine tr_iload_n dX12_readAlp_48 rfl ?_
                                        refine q_iconst dX12_readAlp_49 (by decide) ?_
                                        intro v1175 h1176
                                        refine q_icmp_ge 85 dX12_readAlp_50 (by decide) (fun h1177 => ?_) (fun h1177 => ?_)
                                        · skip
                                          exfalso; omega
                                        · skip
                                          refine tr_iload_n dX12_readAlp_53 rfl ?_
                                          refine q_if_le 63 dX12_readAlp_54 (by decide) (fun h1178 => ?_) (fun h1178 => ?_)
                                          · skip
                                            exfalso; omega
                                          · skip
                                            refine tr_aload_n dX12_readAlp_57 rfl ?_
                                            refine q_bipush dX12_readAlp_58 (by decide +kernel) ?_
                                            intro v1179 h1180
                                            refine q_callVv hE (M' := mX12_needsSign) (as := [_]) dX12_readAlp_60 lk12_257 inX12_needsSign seX12_needsSign myX12_needsSign (by decide) ⟨by decide, by decide⟩ rfl (kR15 hS1164.1 ta0) (Nat.le_of_ble_eq_true rfl) rfl rfl (by decide) (by decide) (k_X12_needsSign hS1164.1 ta0) ?_
                                            rintro cn' K' N' I1181 R1182 L1183 ⟨rfl, rfl, rfl, rfl, g1184, w1186, -⟩
                                            have hS1187 := hS1164.tr g1184 (by decide +kernel) (by decide +kernel)
                                            have c1188 : I1181 a1 0 = v29 := (g1184.cell ta1 (by decide +kernel)).trans c1167
                                            have c1189 : I1181 a1 1 = v33 := (g1184.cell ta1 (by decide +kernel)).trans c1168
                                            have hO1190 : FrO 14 a1 T I0 I1181 := hO1172.st g1184 (by decide +kernel)
                                            have ov1191 := w1186.over (by rw [c1169]; omega)
                                            obtain ⟨v1192, c1193⟩ : ∃ v, I1181 a0 9 = v := ⟨_, rfl⟩
                                            have b1194 := iv15_9 hS1187.1 ta0 c1193
                                            obtain ⟨v1195, c1196⟩ : ∃ v, I1181 a0 13 = v := ⟨_, rfl⟩
                                            obtain ⟨v1197, c1198⟩ : ∃ v, I1181 a0 14 = v := ⟨_, rfl⟩
                                            (try rw [c1193] at ov1191)
                                            (try rw [c1196] at ov1191)
                                            (try rw [c1198] at ov1191)
                                            (try rw [c1169] at ov1191)
                                            (try rw [c1170] at ov1191)
                                            (try rw [c1171] at ov1191)
                                            refine tr_aload_n dX12_readAlp_63 rfl ?_
                                            refine tr_getR dX12_readAlp_64 fl12_188 (kR15 hS1187.1 ta0) d2 ?_
                                            refine tr_getR dX12_readAlp_67 fl12_260 (kR14 hS1187.1 ta1) d310 ?_
                                            refine tr_iload_n dX12_readAlp_70 rfl ?_
                                            refine tr_aload_n dX12_readAlp_71 rfl ?_
                                            refine q_iconst dX12_readAlp_72 (by decide) ?_
                                            intro v1199 h1200
                                            refine q_bipush dX12_readAlp_73 (by decide +kernel) ?_
                                            intro v1201 h1202
                                            refine q_callVi hE (M' := mX12_readWhole) (as := [_, _]) dX12_readAlp_75 lk12_161 inX12_readWhole seX12_readWhole myX12_readWhole (by decide) ⟨by decide, by decide⟩ rfl (kR15 hS1187.1 ta0) (Nat.le_of_ble_eq_true rfl) rfl rfl (by decide) (by decide) (k_X12_readWhole hS1187.1 ta0) ?_
                                            rintro v1207 cn' K' N' I1203 R1204 L1205 ⟨rfl, rfl, rfl, rfl, g1206, p1208, w1209, -⟩
                                            have hS1210 := hS1187.tr g1206 (by decide +kernel) (by decide +kernel)
                                            have c1211 : I1203 a1 0 = v29 := (g1206.cell ta1 (by decide +kernel)).trans c1188
                                            have c1212 : I1203 a1 1 = v33 := (g1206.cell ta1 (by decide +kernel)).trans c1189
                                            have b1213 : 0 ≤ v1207.toInt ∧ v1207.toInt ≤ 99 := by omega
                                            clear p1208
                                            have hO1214 : FrO 14 a1 T I0 I1203 := hO1190.st g1206 (by decide +kernel)
                                            have ov1215 := w1209.over (by rw [c1193]; omega)
                                            obtain ⟨v1216, c1217⟩ : ∃ v, I1203 a0 9 = v := ⟨_, rfl⟩
                                            have b1218 := iv15_9 hS1210.1 ta0 c1217
                                            obtain ⟨v1219, c1220⟩ : ∃ v, I1203 a0 13 = v := ⟨_, rfl⟩
                                            obtain ⟨v1221, c1222⟩ : ∃ v, I1203 a0 14 = v := ⟨_, rfl⟩
                                            (try rw [c1217] at ov1215)
                                            (try rw [c1220] at ov1215)
                                            (try rw [c1222] at ov1215)
                                            (try rw [c1193] at ov1215)
                                            (try rw [c1196] at ov1215)
                                            (try rw [c1198] at ov1215)
                                            refine q_iast dX12_readAlp_78 (kR53 hS1210.1 ta309) (ti_in (nR53 hS1210.1 ta309) (by omega) (by omega)) hS1210 ta309 (iokF rfl) rfl (by rfl) ?_
                                            intro I1223 hS1224 e1226 f1225
                                            have c1227 : I1223 a1 0 = v29 := (f1225 _ _ (fun q => by have z := ta1; rw [q.1, ta309] at z; exact absurd z (by decide))).trans c1211
                                            have c1228 : I1223 a1 1 = v33 := (f1225 _ _ (fun q => by have z := ta1; rw [q.1, ta309] at z; exact absurd z (by decide))).trans c1212
                                            have c1229 : I1223 a0 9 = v1216 := (f1225 _ _ (fun q => by have z := ta0; rw [q.1, ta309] at z; exact absurd z (by decide))).trans c1217
                                            have c1230 : I1223 a0 13 = v1219 := (f1225 _ _ (fun q => by have z := ta0; rw [q.1, ta309] at z; exact absurd z (by decide))).trans c1220
                                            have c1231 : I1223 a0 14 = v1221 := (f1225 _ _ (fun q => by have z := ta0; rw [q.1, ta309] at z; exact absurd z (by decide))).trans c1222
                                            have hO1232 : FrO 14 a1 T I0 I1223 := hO1214.put f1225 ta309 (Or.inl (by decide))
                                            refine q_iincE dX12_readAlp_79 rfl (by decide) (by decide) (by intros; omega) ?_
                                            intro v1233 h1234
                                            refine tr_goto 48 dX12_readAlp_82 (by decide) ?_
                                            refine tr_iload_n dX12_readAlp_48 rfl ?_
                                            refine q_iconst dX12_readAlp_49 (by decide) ?_
                                            intro v1235 h1236
                                            refine q_icmp_ge 85 dX12_readAlp_50 (by decide) (fun h1237 => ?_) (fun h1237 => ?_)
                                            · skip
                                              refine tr_aload_n dX12_readAlp_85 rfl ?_
                                              refine q_getI dX12_readAlp_86 fl12_99 (kR15 hS1224.1 ta0) c1229 ?_
                                              refine q_iconst dX12_readAlp_89 (by decide) ?_
                                              intro v1238 h1239
                                              refine q_icmp_ne 94 dX12_readAlp_90 (by decide) (fun h1240 => ?_) (fun h1240 => ?_)
                                              · skip
                                                exfalso; omega
                                              · skip
                                                have eF := hF.eq
                                                have eP := hP.eq
                                                obtain ⟨v1241, c1242⟩ : ∃ v, I1223 a0 10 = v := ⟨_, rfl⟩
                                                have b1243 := iv15_10 hS1224.1 ta0 c1242
                                                obtain ⟨v1244, c1245⟩ : ∃ v, I1223 a0 11 = v := ⟨_, rfl⟩
                                                obtain ⟨y1246, c1247⟩ : ∃ v, L1205 a0 15 = v := ⟨_, rfl⟩
                                                obtain ⟨v1248, c1249⟩ : ∃ v, I1223 a0 12 = v := ⟨_, rfl⟩
                                                obtain ⟨v1250, c1251⟩ : ∃ v, I1223 a0 8 = v := ⟨_, rfl⟩
                                                have b1252 := iv15_8 hS1224.1 ta0 c1251
                                                exact tr_vret hZ dX12_readAlp_93 rfl (by decide) (by decide) ⟨rfl, rfl, rfl, rfl, rfl, hS1224, (fun dr hd => (Option.some.inj (d2.symm.trans hd)) ▸ hO1232), (Or.inr (⟨(by (try rw [w107]); first | done | with_reducible assumption | omega), (by (try rw [w107]); (try rw [c1229]); first | done | with_reducible assumption | omega), (by (try rw [w107]); (try rw [c1230]); first | done | with_reducible assumption | omega), (by (try rw [w107]); (try rw [c1231]); first | done | with_reducible assumption | omega), trivial⟩)), trivial⟩
                                            · skip
                                              exfalso; omega
                                    · skip
                                      obtain ⟨v1253, c1254⟩ : ∃ v, I644 a0 9 = v := ⟨_, rfl⟩
                                      have b1255 := iv15_9 hS652.1 ta0 c1254
                                      rw [c1254] at p667
                                      obtain ⟨v1256, c1257⟩ : ∃ v, I644 a0 13 = v := ⟨_, rfl⟩
                                      rw [c1257] at p668
                                      obtain ⟨v1258, c1259⟩ : ∃ v, I644 a0 14 = v := ⟨_, rfl⟩
                                      rw [c1259] at p669
                                      replace hF := hF.pos (by omega)
                                      replace hP := hP.pos (by omega)
                                      refine tr_aload_n dX12_readAlp_63 rfl ?_
                                      refine tr_getR dX12_readAlp_64 fl12_188 (kR15 hS652.1 ta0) d2 ?_
                                      refine tr_getR dX12_readAlp_67 fl12_260 (kR14 hS652.1 ta1) d310 ?_
                                      refine tr_iload_n dX12_readAlp_70 rfl ?_
                                      refine tr_aload_n dX12_readAlp_71 rfl ?_
                                      refine q_iconst dX12_readAlp_72 (by decide) ?_
                                      intro v1260 h1261
                                      refine q_bipush dX12_readAlp_73 (by decide +kernel) ?_
                                      intro v1262 h1263
                                      refine q_callVi hE (M' := mX12_readWhole) (as := [_, _]) dX12_readAlp_75 lk12_161 inX12_readWhole seX12_readWhole myX12_readWhole (by decide) ⟨by decide, by decide⟩ rfl (kR15 hS652.1 ta0) (Nat.le_of_ble_eq_true rfl) rfl rfl (by decide) (by decide) (k_X12_readWhole hS652.1 ta0) ?_
                                      rintro v1268 cn' K' N' I1264 R1265 L1266 ⟨rfl, rfl, rfl, rfl, g1267, p1269, w1270, -⟩
                                      have hS1271 := hS652.tr g1267 (by decide +kernel) (by decide +kernel)
                                      have c1272 : I1264 a1 0 = v29 := (g1267.cell ta1 (by decide +kernel)).trans c653
                                      have c1273 : I1264 a1 1 = v33 := (g1267.cell ta1 (by decide +kernel)).trans c654
                                      have b1274 : 0 ≤ v1268.toInt ∧ v1268.toInt ≤ 99 := by omega
                                      clear p1269
                                      have hO1275 : FrO 14 a1 T I0 I1264 := hO655.st g1267 (by decide +kernel)
                                      have ov1276 := w1270.over (by rw [c1254]; omega)
                                      obtain ⟨v1277, c1278⟩ : ∃ v, I1264 a0 9 = v := ⟨_, rfl⟩
                                      have b1279 := iv15_9 hS1271.1 ta0 c1278
                                      obtain ⟨v1280, c1281⟩ : ∃ v, I1264 a0 13 = v := ⟨_, rfl⟩
                                      obtain ⟨v1282, c1283⟩ : ∃ v, I1264 a0 14 = v := ⟨_, rfl⟩
                                      (try rw [c1278] at ov1276)
                                      (try rw [c1281] at ov1276)
                                      (try rw [c1283] at ov1276)
                                      (try rw [c1254] at ov1276)
                                      (try rw [c1257] at ov1276)
                                      (try rw [c1259] at ov1276)
                                      refine q_iast dX12_readAlp_78 (kR53 hS1271.1 ta309) (ti_in (nR53 hS1271.1 ta309) (by omega) (by omega)) hS1271 ta309 (iokF rfl) rfl (by rfl) ?_
                                      intro I1284 hS1285 e1287 f1286
                                      have c1288 : I1284 a1 0 = v29 := (f1286 _ _ (fun q => by have z := ta1; rw [q.1, ta309] at z; exact absurd z (by decide))).trans c1272
                                      have c1289 : I1284 a1 1 = v33 := (f1286 _ _ (fun q => by have z := ta1; rw [q.1, ta309] at z; exact absurd z (by decide))).trans c1273
                                      have c1290 : I1284 a0 9 = v1277 := (f1286 _ _ (fun q => by have z := ta0; rw [q.1, ta309] at z; exact absurd z (by decide))).trans c1278
                                      have c1291 : I1284 a0 13 = v1280 := (f1286 _ _ (fun q => by have z := ta0; rw [q.1, ta309] at z; exact absurd z (by decide))).trans c1281
                                      have c1292 : I1284 a0 14 = v1282 := (f1286 _ _ (fun q => by have z := ta0; rw [q.1, ta309] at z; exact absurd z (by decide))).trans c1283
                                      have hO1293 : FrO 14 a1 T I0 I1284 := hO1275.put f1286 ta309 (Or.inl (by decide))
                                      refine q_iincE dX12_readAlp_79 rfl (by decide) (by decide) (by intros; omega) ?_
                                      intro v1294 h1295
                                      refine tr_goto 48 dX12_readAlp_82 (by decide) ?_
                                      refine tr_iload_n dX12_readAlp_48 rfl ?_
                                      refine q_iconst dX12_readAlp_49 (by decide) ?_
                                      intro v1296 h1297
                                      refine q_icmp_ge 85 dX12_readAlp_50 (by decide) (fun h1298 => ?_) (fun h1298 => ?_)
                                      · skip
                                        exfalso; omega
                                      · skip
                                        refine tr_iload_n dX12_readAlp_53 rfl ?_
                                        refine q_if_le 63 dX12_readAlp_54 (by decide) (fun h1299 => ?_) (fun h1299 => ?_)
                                        · skip
                                          exfalso; omega
                                        · skip
                                          refine tr_aload_n dX12_readAlp_57 rfl ?_
                                          refine q_bipush dX12_readAlp_58 (by decide +kernel) ?_
                                          intro v1300 h1301
                                          refine q_callVv hE (M' := mX12_needsSign) (as := [_]) dX12_readAlp_60 lk12_257 inX12_needsSign seX12_needsSign myX12_needsSign (by decide) ⟨by decide, by decide⟩ rfl (kR15 hS1285.1 ta0) (Nat.le_of_ble_eq_true rfl) rfl rfl (by decide) (by decide) (k_X12_needsSign hS1285.1 ta0) ?_
                                          rintro cn' K' N' I1302 R1303 L1304 ⟨rfl, rfl, rfl, rfl, g1305, w1307, -⟩
                                          have hS1308 := hS1285.tr g1305 (by decide +kernel) (by decide +kernel)
                                          have c1309 : I1302 a1 0 = v29 := (g1305.cell ta1 (by decide +kernel)).trans c1288
                                          have c1310 : I1302 a1 1 = v33 := (g1305.cell ta1 (by decide +kernel)).trans c1289
                                          have hO1311 : FrO 14 a1 T I0 I1302 := hO1293.st g1305 (by decide +kernel)
                                          have ov1312 := w1307.over (by rw [c1290]; omega)
                                          obtain ⟨v1313, c1314⟩ : ∃ v, I1302 a0 9 = v := ⟨_, rfl⟩
                                          have b1315 := iv15_9 hS1308.1 ta0 c1314
                                          obtain ⟨v1316, c1317⟩ : ∃ v, I1302 a0 13 = v := ⟨_, rfl⟩
                                          obtain ⟨v1318, c1319⟩ : ∃ v, I1302 a0 14 = v := ⟨_, rfl⟩
                                          (try rw [c1314] at ov1312)
                                          (try rw [c1317] at ov1312)
                                          (try rw [c1319] at ov1312)
                                          (try rw [c1290] at ov1312)
                                          (try rw [c1291] at ov1312)
                                          (try rw [c1292] at ov1312)
                                          refine tr_aload_n dX12_readAlp_63 rfl ?_
                                          refine tr_getR dX12_readAlp_64 fl12_188 (kR15 hS1308.1 ta0) d2 ?_
                                          refine tr_getR dX12_readAlp_67 fl12_260 (kR14 hS1308.1 ta1) d310 ?_
                                          refine tr_iload_n dX12_readAlp_70 rfl ?_
                                          refine tr_aload_n dX12_readAlp_71 rfl ?_
                                          refine q_iconst dX12_readAlp_72 (by decide) ?_
                                          intro v1320 h1321
                                          refine q_bipush dX12_readAlp_73 (by decide +kernel) ?_
                                          intro v1322 h1323
                                          refine q_callVi hE (M' := mX12_readWhole) (as := [_, _]) dX12_readAlp_75 lk12_161 inX12_readWhole seX12_readWhole myX12_readWhole (by decide) ⟨by decide, by decide⟩ rfl (kR15 hS1308.1 ta0) (Nat.le_of_ble_eq_true rfl) rfl rfl (by decide) (by decide) (k_X12_readWhole hS1308.1 ta0) ?_
                                          rintro v1328 cn' K' N' I1324 R1325 L1326 ⟨rfl, rfl, rfl, rfl, g1327, p1329, w1330, -⟩
                                          have hS1331 := hS1308.tr g1327 (by decide +kernel) (by decide +kernel)
                                          have c1332 : I1324 a1 0 = v29 := (g1327.cell ta1 (by decide +kernel)).trans c1309
                                          have c1333 : I1324 a1 1 = v33 := (g1327.cell ta1 (by decide +kernel)).trans c1310
                                          have b1334 : 0 ≤ v1328.toInt ∧ v1328.toInt ≤ 99 := by omega
                                          clear p1329
                                          have hO1335 : FrO 14 a1 T I0 I1324 := hO1311.st g1327 (by decide +kernel)
                                          have ov1336 := w1330.over (by rw [c1314]; omega)
                                          obtain ⟨v1337, c1338⟩ : ∃ v, I1324 a0 9 = v := ⟨_, rfl⟩
                                          have b1339 := iv15_9 hS1331.1 ta0 c1338
                                          obtain ⟨v1340, c1341⟩ : ∃ v, I1324 a0 13 = v := ⟨_, rfl⟩
                                          obtain ⟨v1342, c1343⟩ : ∃ v, I1324 a0 14 = v := ⟨_, rfl⟩
                                          (try rw [c1338] at ov1336)
                                          (try rw [c1341] at ov1336)
                                          (try rw [c1343] at ov1336)
                                          (try rw [c1314] at ov1336)
                                          (try rw [c1317] at ov1336)
                                          (try rw [c1319] at ov1336)
                                          refine q_iast dX12_readAlp_78 (kR53 hS1331.1 ta309) (ti_in (nR53 hS1331.1 ta309) (by omega) (by omega)) hS1331 ta309 (iokF rfl) rfl (by rfl) ?_
                                          intro I1344 hS1345 e1347 f1346
                                          have c1348 : I1344 a1 0 = v29 := (f1346 _ _ (fun q => by have z := ta1; rw [q.1, ta309] at z; exact absurd z (by decide))).trans c1332
                                          have c1349 : I1344 a1 1 = v33 := (f1346 _ _ (fun q => by have z := ta1; rw [q.1, ta309] at z; exact absurd z (by decide))).trans c1333
                                          have c1350 : I1344 a0 9 = v1337 := (f1346 _ _ (fun q => by have z := ta0; rw [q.1, ta309] at z; exact absurd z (by decide))).trans c1338
                                          have c1351 : I1344 a0 13 = v1340 := (f1346 _ _ (fun q => by have z := ta0; rw [q.1, ta309] at z; exact absurd z (by decide))).trans c1341
                                          have c1352 : I1344 a0 14 = v1342 := (f1346 _ _ (fun q => by have z := ta0; rw [q.1, ta309] at z; exact absurd z (by decide))).trans c1343
                                          have hO1353 : FrO 14 a1 T I0 I1344 := hO1335.put f1346 ta309 (Or.inl (by decide))
                                          refine q_iincE dX12_readAlp_79 rfl (by decide) (by decide) (by intros; omega) ?_
                                          intro v1354 h1355
                                          refine tr_goto 48 dX12_readAlp_82 (by decide) ?_
                                          refine tr_iload_n dX12_readAlp_48 rfl ?_
                                          refine q_iconst dX12_readAlp_49 (by decide) ?_
                                          intro v1356 h1357
                                          refine q_icmp_ge 85 dX12_readAlp_50 (by decide) (fun h1358 => ?_) (fun h1358 => ?_)
                                          · skip
                                            refine tr_aload_n dX12_readAlp_85 rfl ?_
                                            refine q_getI dX12_readAlp_86 fl12_99 (kR15 hS1345.1 ta0) c1350 ?_
                                            refine q_iconst dX12_readAlp_89 (by decide) ?_
                                            intro v1359 h1360
                                            refine q_icmp_ne 94 dX12_readAlp_90 (by decide) (fun h1361 => ?_) (fun h1361 => ?_)
                                            · skip
                                              exfalso; omega
                                            · skip
                                              have eF := hF.eq
                                              have eP := hP.eq
                                              obtain ⟨v1362, c1363⟩ : ∃ v, I1344 a0 10 = v := ⟨_, rfl⟩
                                              have b1364 := iv15_10 hS1345.1 ta0 c1363
                                              obtain ⟨v1365, c1366⟩ : ∃ v, I1344 a0 11 = v := ⟨_, rfl⟩
                                              obtain ⟨y1367, c1368⟩ : ∃ v, L1326 a0 15 = v := ⟨_, rfl⟩
                                              obtain ⟨v1369, c1370⟩ : ∃ v, I1344 a0 12 = v := ⟨_, rfl⟩
                                              obtain ⟨v1371, c1372⟩ : ∃ v, I1344 a0 8 = v := ⟨_, rfl⟩
                                              have b1373 := iv15_8 hS1345.1 ta0 c1372
                                              exact tr_vret hZ dX12_readAlp_93 rfl (by decide) (by decide) ⟨rfl, rfl, rfl, rfl, rfl, hS1345, (fun dr hd => (Option.some.inj (d2.symm.trans hd)) ▸ hO1353), (Or.inr (⟨(by (try rw [w107]); first | done | with_reducible assumption | omega), (by (try rw [w107]); (try rw [c1350]); first | done | with_reducible assumption | omega), (by (try rw [w107]); (try rw [c1351]); first | done | with_reducible assumption | omega), (by (try rw [w107]); (try rw [c1352]); first | done | with_reducible assumption | omega), trivial⟩)), trivial⟩
                                          · skip
                                            exfalso; omega
                              · skip
                                obtain ⟨v1374, c1375⟩ : ∃ v, I567 a0 9 = v := ⟨_, rfl⟩
                                have b1376 := iv15_9 hS575.1 ta0 c1375
                                rw [c1375] at p594
                                obtain ⟨v1377, c1378⟩ : ∃ v, I567 a0 13 = v := ⟨_, rfl⟩
                                rw [c1378] at p595
                                obtain ⟨v1379, c1380⟩ : ∃ v, I567 a0 14 = v := ⟨_, rfl⟩
                                rw [c1380] at p596
                                replace hF := hF.pos (by omega)
                                replace hP := hP.pos (by omega)
                                refine q_iast dX12_readAlp_78 (kR53 hS575.1 ta309) (ti_in (nR53 hS575.1 ta309) (by omega) (by omega)) hS575 ta309 (iokF rfl) rfl (by rfl) ?_
                                intro I1381 hS1382 e1384 f1383
                                have c1385 : I1381 a1 0 = v29 := (f1383 _ _ (fun q => by have z := ta1; rw [q.1, ta309] at z; exact absurd z (by decide))).trans c576
                                have c1386 : I1381 a1 1 = v33 := (f1383 _ _ (fun q => by have z := ta1; rw [q.1, ta309] at z; exact absurd z (by decide))).trans c577
                                have c1387 : I1381 a0 9 = v1374 := (f1383 _ _ (fun q => by have z := ta0; rw [q.1, ta309] at z; exact absurd z (by decide))).trans c1375
                                have c1388 : I1381 a0 13 = v1377 := (f1383 _ _ (fun q => by have z := ta0; rw [q.1, ta309] at z; exact absurd z (by decide))).trans c1378
                                have c1389 : I1381 a0 14 = v1379 := (f1383 _ _ (fun q => by have z := ta0; rw [q.1, ta309] at z; exact absurd z (by decide))).trans c1380
                                have hO1390 : FrO 14 a1 T I0 I1381 := hO578.put f1383 ta309 (Or.inl (by decide))
                                refine q_iincE dX12_readAlp_79 rfl (by decide) (by decide) (by intros; omega) ?_
                                intro v1391 h1392
                                refine tr_goto 48 dX12_readAlp_82 (by decide) ?_
                                refine tr_iload_n dX12_readAlp_48 rfl ?_
                                refine q_iconst dX12_readAlp_49 (by decide) ?_
                                intro v1393 h1394
                                refine q_icmp_ge 85 dX12_readAlp_50 (by decide) (fun h1395 => ?_) (fun h1395 => ?_)
                                · skip
                                  exfalso; omega
                                · skip
                                  refine tr_iload_n dX12_readAlp_53 rfl ?_
                                  refine q_if_le 63 dX12_readAlp_54 (by decide) (fun h1396 => ?_) (fun h1396 => ?_)
                                  · skip
                                    exfalso; omega
                                  · skip
                                    refine tr_aload_n dX12_readAlp_57 rfl ?_
                                    refine q_bipush dX12_readAlp_58 (by decide +kernel) ?_
                                    intro v1397 h1398
                                    refine q_callVv hE (M' := mX12_needsSign) (as := [_]) dX12_readAlp_60 lk12_257 inX12_needsSign seX12_needsSign myX12_needsSign (by decide) ⟨by decide, by decide⟩ rfl (kR15 hS1382.1 ta0) (Nat.le_of_ble_eq_true rfl) rfl rfl (by decide) (by decide) (k_X12_needsSign hS1382.1 ta0) ?_
                                    rintro cn' K' N' I1399 R1400 L1401 ⟨rfl, rfl, rfl, rfl, g1402, w1404, -⟩
                                    have hS1405 := hS1382.tr g1402 (by decide +kernel) (by decide +kernel)
                                    have c1406 : I1399 a1 0 = v29 := (g1402.cell ta1 (by decide +kernel)).trans c1385
                                    have c1407 : I1399 a1 1 = v33 := (g1402.cell ta1 (by decide +kernel)).trans c1386
                                    have hO1408 : FrO 14 a1 T I0 I1399 := hO1390.st g1402 (by decide +kernel)
                                    have ov1409 := w1404.over (by rw [c1387]; omega)
                                    obtain ⟨v1410, c1411⟩ : ∃ v, I1399 a0 9 = v := ⟨_, rfl⟩
                                    have b1412 := iv15_9 hS1405.1 ta0 c1411
                                    obtain ⟨v1413, c1414⟩ : ∃ v, I1399 a0 13 = v := ⟨_, rfl⟩
                                    obtain ⟨v1415, c1416⟩ : ∃ v, I1399 a0 14 = v := ⟨_, rfl⟩
                                    (try rw [c1411] at ov1409)
                                    (try rw [c1414] at ov1409)
                                    (try rw [c1416] at ov1409)
                                    (try rw [c1387] at ov1409)
                                    (try rw [c1388] at ov1409)
                                    (try rw [c1389] at ov1409)
                                    refine tr_aload_n dX12_readAlp_63 rfl ?_
                                    refine tr_getR dX12_readAlp_64 fl12_188 (kR15 hS1405.1 ta0) d2 ?_
                                    refine tr_getR dX12_readAlp_67 fl12_260 (kR14 hS1405.1 ta1) d310 ?_
                                    refine tr_iload_n dX12_readAlp_70 rfl ?_
                                    refine tr_aload_n dX12_readAlp_71 rfl ?_
                                    refine q_iconst dX12_readAlp_72 (by decide) ?_
                                    intro v1417 h1418
                                    refine q_bipush dX12_readAlp_73 (by decide +kernel) ?_
                                    intro v1419 h1420
                                    refine q_callVi hE (M' := mX12_readWhole) (as := [_, _]) dX12_readAlp_75 lk12_161 inX12_readWhole seX12_readWhole myX12_readWhole (by decide) ⟨by decide, by decide⟩ rfl (kR15 hS1405.1 ta0) (Nat.le_of_ble_eq_true rfl) rfl rfl (by decide) (by decide) (k_X12_readWhole hS1405.1 ta0) ?_
                                    rintro v1425 cn' K' N' I1421 R1422 L1423 ⟨rfl, rfl, rfl, rfl, g1424, p1426, w1427, -⟩
                                    have hS1428 := hS1405.tr g1424 (by decide +kernel) (by decide +kernel)
                                    have c1429 : I1421 a1 0 = v29 := (g1424.cell ta1 (by decide +kernel)).trans c1406
                                    have c1430 : I1421 a1 1 = v33 := (g1424.cell ta1 (by decide +kernel)).trans c1407
                                    have b1431 : 0 ≤ v1425.toInt ∧ v1425.toInt ≤ 99 := by omega
                                    clear p1426
                                    have hO1432 : FrO 14 a1 T I0 I1421 := hO1408.st g1424 (by decide +kernel)
                                    have ov1433 := w1427.over (by rw [c1411]; omega)
                                    obtain ⟨v1434, c1435⟩ : ∃ v, I1421 a0 9 = v := ⟨_, rfl⟩
                                    have b1436 := iv15_9 hS1428.1 ta0 c1435
                                    obtain ⟨v1437, c1438⟩ : ∃ v, I1421 a0 13 = v := ⟨_, rfl⟩
                                    obtain ⟨v1439, c1440⟩ : ∃ v, I1421 a0 14 = v := ⟨_, rfl⟩
                                    (try rw [c1435] at ov1433)
                                    (try rw [c1438] at ov1433)
                                    (try rw [c1440] at ov1433)
                                    (try rw [c1411] at ov1433)
                                    (try rw [c1414] at ov1433)
                                    (try rw [c1416] at ov1433)
                                    refine q_iast dX12_readAlp_78 (kR53 hS1428.1 ta309) (ti_in (nR53 hS1428.1 ta309) (by omega) (by omega)) hS1428 ta309 (iokF rfl) rfl (by rfl) ?_
                                    intro I1441 hS1442 e1444 f1443
                                    have c1445 : I1441 a1 0 = v29 := (f1443 _ _ (fun q => by have z := ta1; rw [q.1, ta309] at z; exact absurd z (by decide))).trans c1429
                                    have c1446 : I1441 a1 1 = v33 := (f1443 _ _ (fun q => by have z := ta1; rw [q.1, ta309] at z; exact absurd z (by decide))).trans c1430
                                    have c1447 : I1441 a0 9 = v1434 := (f1443 _ _ (fun q => by have z := ta0; rw [q.1, ta309] at z; exact absurd z (by decide))).trans c1435
                                    have c1448 : I1441 a0 13 = v1437 := (f1443 _ _ (fun q => by have z := ta0; rw [q.1, ta309] at z; exact absurd z (by decide))).trans c1438
                                    have c1449 : I1441 a0 14 = v1439 := (f1443 _ _ (fun q => by have z := ta0; rw [q.1, ta309] at z; exact absurd z (by decide))).trans c1440
                                    have hO1450 : FrO 14 a1 T I0 I1441 := hO1432.put f1443 ta309 (Or.inl (by decide))
                                    refine q_iincE dX12_readAlp_79 rfl (by decide) (by decide) (by intros; omega) ?_
                                    intro v1451 h1452
                                    refine tr_goto 48 dX12_readAlp_82 (by decide) ?_
                                    refine tr_iload_n dX12_readAlp_48 rfl ?_
                                    refine q_iconst dX12_readAlp_49 (by decide) ?_
                                    intro v1453 h1454
                                    refine q_icmp_ge 85 dX12_readAlp_50 (by decide) (fun h1455 => ?_) (fun h1455 => ?_)
                                    · skip
                                      exfalso; omega
                                    · skip
                                      refine tr_iload_n dX12_readAlp_53 rfl ?_
                                      refine q_if_le 63 dX12_readAlp_54 (by decide) (fun h1456 => ?_) (fun h1456 => ?_)
                                      · skip
                                        exfalso; omega
                                      · skip
                                        refine tr_aload_n dX12_readAlp_57 rfl ?_
                                        refine q_bipush dX12_readAlp_58 (by decide +kernel) ?_
                                        intro v1457 h1458
                                        refine q_callVv hE (M' := mX12_needsSign) (as := [_]) dX12_readAlp_60 lk12_257 inX12_needsSign seX12_needsSign myX12_needsSign (by decide) ⟨by decide, by decide⟩ rfl (kR15 hS1442.1 ta0) (Nat.le_of_ble_eq_true rfl) rfl rfl (by decide) (by decide) (k_X12_needsSign hS1442.1 ta0) ?_
                                        rintro cn' K' N' I1459 R1460 L1461 ⟨rfl, rfl, rfl, rfl, g1462, w1464, -⟩
                                        have hS1465 := hS1442.tr g1462 (by decide +kernel) (by decide +kernel)
                                        have c1466 : I1459 a1 0 = v29 := (g1462.cell ta1 (by decide +kernel)).trans c1445
                                        have c1467 : I1459 a1 1 = v33 := (g1462.cell ta1 (by decide +kernel)).trans c1446
                                        have hO1468 : FrO 14 a1 T I0 I1459 := hO1450.st g1462 (by decide +kernel)
                                        have ov1469 := w1464.over (by rw [c1447]; omega)
                                        obtain ⟨v1470, c1471⟩ : ∃ v, I1459 a0 9 = v := ⟨_, rfl⟩
                                        have b1472 := iv15_9 hS1465.1 ta0 c1471
                                        obtain ⟨v1473, c1474⟩ : ∃ v, I1459 a0 13 = v := ⟨_, rfl⟩
                                        obtain ⟨v1475, c1476⟩ : ∃ v, I1459 a0 14 = v := ⟨_, rfl⟩
                                        (try rw [c1471] at ov1469)
                                        (try rw [c1474] at ov1469)
                                        (try rw [c1476] at ov1469)
                                        (try rw [c1447] at ov1469)
                                        (try rw [c1448] at ov1469)
                                        (try rw [c1449] at ov1469)
                                        refine tr_aload_n dX12_readAlp_63 rfl ?_
                                        refine tr_getR dX12_readAlp_64 fl12_188 (kR15 hS1465.1 ta0) d2 ?_
                                        refine tr_getR dX12_readAlp_67 fl12_260 (kR14 hS1465.1 ta1) d310 ?_
                                        refine tr_iload_n dX12_readAlp_70 rfl ?_
                                        refine tr_aload_n dX12_readAlp_71 rfl ?_
                                        refine q_iconst dX12_readAlp_72 (by decide) ?_
                                        intro v1477 h1478
                                        refine q_bipush dX12_readAlp_73 (by decide +kernel) ?_
                                        intro v1479 h1480
                                        refine q_callVi hE (M' := mX12_readWhole) (as := [_, _]) dX12_readAlp_75 lk12_161 inX12_readWhole seX12_readWhole myX12_readWhole (by decide) ⟨by decide, by decide⟩ rfl (kR15 hS1465.1 ta0) (Nat.le_of_ble_eq_true rfl) rfl rfl (by decide) (by decide) (k_X12_readWhole hS1465.1 ta0) ?_
                                        rintro v1485 cn' K' N' I1481 R1482 L1483 ⟨rfl, rfl, rfl, rfl, g1484, p1486, w1487, -⟩
                                        have hS1488 := hS1465.tr g1484 (by decide +kernel) (by decide +kernel)
                                        have c1489 : I1481 a1 0 = v29 := (g1484.cell ta1 (by decide +kernel)).trans c1466
                                        have c1490 : I1481 a1 1 = v33 := (g1484.cell ta1 (by decide +kernel)).trans c1467
                                        have b1491 : 0 ≤ v1485.toInt ∧ v1485.toInt ≤ 99 := by omega
                                        clear p1486
                                        have hO1492 : FrO 14 a1 T I0 I1481 := hO1468.st g1484 (by decide +kernel)
                                        have ov1493 := w1487.over (by rw [c1471]; omega)
                                        obtain ⟨v1494, c1495⟩ : ∃ v, I1481 a0 9 = v := ⟨_, rfl⟩
                                        have b1496 := iv15_9 hS1488.1 ta0 c1495
                                        obtain ⟨v1497, c1498⟩ : ∃ v, I1481 a0 13 = v := ⟨_, rfl⟩
                                        obtain ⟨v1499, c1500⟩ : ∃ v, I1481 a0 14 = v := ⟨_, rfl⟩
                                        (try rw [c1495] at ov1493)
                                        (try rw [c1498] at ov1493)
                                        (try rw [c1500] at ov1493)
                                        (try rw [c1471] at ov1493)
                                        (try rw [c1474] at ov1493)
                                        (try rw [c1476] at ov1493)
                                        refine q_iast dX12_readAlp_78 (kR53 hS1488.1 ta309) (ti_in (nR53 hS1488.1 ta309) (by omega) (by omega)) hS1488 ta309 (iokF rfl) rfl (by rfl) ?_
                                        intro I1501 hS1502 e1504 f1503
                                        have c1505 : I1501 a1 0 = v29 := (f1503 _ _ (fun q => by have z := ta1; rw [q.1, ta309] at z; exact absurd z (by decide))).trans c1489
                                        have c1506 : I1501 a1 1 = v33 := (f1503 _ _ (fun q => by have z := ta1; rw [q.1, ta309] at z; exact absurd z (by decide))).trans c1490
                                        have c1507 : I1501 a0 9 = v1494 := (f1503 _ _ (fun q => by have z := ta0; rw [q.1, ta309] at z; exact absurd z (by decide))).trans c1495
                                        have c1508 : I1501 a0 13 = v1497 := (f1503 _ _ (fun q => by have z := ta0; rw [q.1, ta309] at z; exact absurd z (by decide))).trans c1498
                                        have c1509 : I1501 a0 14 = v1499 := (f1503 _ _ (fun q => by have z := ta0; rw [q.1, ta309] at z; exact absurd z (by decide))).trans c1500
                                        have hO1510 : FrO 14 a1 T I0 I1501 := hO1492.put f1503 ta309 (Or.inl (by decide))
                                        refine q_iincE dX12_readAlp_79 rfl (by decide) (by decide) (by intros; omega) ?_
                                        intro v1511 h1512
                                        refine tr_goto 48 dX12_readAlp_82 (by decide) ?_
                                        refine tr_iload_n dX12_readAlp_48 rfl ?_
                                        refine q_iconst dX12_readAlp_49 (by decide) ?_
                                        intro v1513 h1514
                                        refine q_icmp_ge 85 dX12_readAlp_50 (by decide) (fun h1515 => ?_) (fun h1515 => ?_)
                                        · skip
                                          refine tr_aload_n dX12_readAlp_85 rfl ?_
                                          refine q_getI dX12_readAlp_86 fl12_99 (kR15 hS1502.1 ta0) c1507 ?_
                                          refine q_iconst dX12_readAlp_89 (by decide) ?_
                                          intro v1516 h1517
                                          refine q_icmp_ne 94 dX12_readAlp_90 (by decide) (fun h1518 => ?_) (fun h1518 => ?_)
                                          · skip
                                            exfalso; omega
                                          · skip
                                            have eF := hF.eq
                                            have eP := hP.eq
                                            obtain ⟨v1519, c1520⟩ : ∃ v, I1501 a0 10 = v := ⟨_, rfl⟩
                                            have b1521 := iv15_10 hS1502.1 ta0 c1520
                                            obtain ⟨v1522, c1523⟩ : ∃ v, I1501 a0 11 = v := ⟨_, rfl⟩
                                            obtain ⟨y1524, c1525⟩ : ∃ v, L1483 a0 15 = v := ⟨_, rfl⟩
                                            obtain ⟨v1526, c1527⟩ : ∃ v, I1501 a0 12 = v := ⟨_, rfl⟩
                                            obtain ⟨v1528, c1529⟩ : ∃ v, I1501 a0 8 = v := ⟨_, rfl⟩
                                            have b1530 := iv15_8 hS1502.1 ta0 c1529
                                            exact tr_vret hZ dX12_readAlp_93 rfl (by decide) (by decide) ⟨rfl, rfl, rfl, rfl, rfl, hS1502, (fun dr hd => (Option.some.inj (d2.symm.trans hd)) ▸ hO1510), (Or.inr (⟨(by (try rw [w107]); first | done | with_reducible assumption | omega), (by (try rw [w107]); (try rw [c1507]); first | done | with_reducible assumption | omega), (by (try rw [w107]); (try rw [c1508]); first | done | with_reducible assumption | omega), (by (try rw [w107]); (try rw [c1509]); first | done | with_reducible assumption | omega), trivial⟩)), trivial⟩
                                        · skip
                                          exfalso; omega
                              · skip
                                obtain ⟨v1531, c1532⟩ : ∃ v, I567 a0 9 = v := ⟨_, rfl⟩
                                have b1533 := iv15_9 hS575.1 ta0 c1532
                                rw [c1532] at p600
                                obtain ⟨v1534, c1535⟩ : ∃ v, I567 a0 13 = v := ⟨_, rfl⟩
                                rw [c1535] at p601
                                obtain ⟨v1536, c1537⟩ : ∃ v, I567 a0 14 = v := ⟨_, rfl⟩
                                rw [c1537] at p602
                                replace hF := hF.neg (by omega)
                                replace hP := hP.neg (by omega)
                                replace hF := hF.pos (by omega)
                                replace hP := hP.pos (by omega)
                                refine q_iast dX12_readAlp_78 (kR53 hS575.1 ta309) (ti_in (nR53 hS575.1 ta309) (by omega) (by omega)) hS575 ta309 (iokF rfl) rfl (by rfl) ?_
                                intro I1538 hS1539 e1541 f1540
                                have c1542 : I1538 a1 0 = v29 := (f1540 _ _ (fun q => by have z := ta1; rw [q.1, ta309] at z; exact absurd z (by decide))).trans c576
                                have c1543 : I1538 a1 1 = v33 := (f1540 _ _ (fun q => by have z := ta1; rw [q.1, ta309] at z; exact absurd z (by decide))).trans c577
                                have c1544 : I1538 a0 9 = v1531 := (f1540 _ _ (fun q => by have z := ta0; rw [q.1, ta309] at z; exact absurd z (by decide))).trans c1532
                                have c1545 : I1538 a0 13 = v1534 := (f1540 _ _ (fun q => by have z := ta0; rw [q.1, ta309] at z; exact absurd z (by decide))).trans c1535
                                have c1546 : I1538 a0 14 = v1536 := (f1540 _ _ (fun q => by have z := ta0; rw [q.1, ta309] at z; exact absurd z (by decide))).trans c1537
                                have hO1547 : FrO 14 a1 T I0 I1538 := hO578.put f1540 ta309 (Or.inl (by decide))
                                refine q_iincE dX12_readAlp_79 rfl (by decide) (by decide) (by intros; omega) ?_
                                intro v1548 h1549
                                refine tr_goto 48 dX12_readAlp_82 (by decide) ?_
                                refine tr_iload_n dX12_readAlp_48 rfl ?_
                                refine q_iconst dX12_readAlp_49 (by decide) ?_
                                intro v1550 h1551
                                refine q_icmp_ge 85 dX12_readAlp_50 (by decide) (fun h1552 => ?_) (fun h1552 => ?_)
                                · skip
                                  exfalso; omega
                                · skip
                                  refine tr_iload_n dX12_readAlp_53 rfl ?_
                                  refine q_if_le 63 dX12_readAlp_54 (by decide) (fun h1553 => ?_) (fun h1553 => ?_)
                                  · skip
                                    exfalso; omega
                                  · skip
                                    refine tr_aload_n dX12_readAlp_57 rfl ?_
                                    refine q_bipush dX12_readAlp_58 (by decide +kernel) ?_
                                    intro v1554 h1555
                                    refine q_callVv hE (M' := mX12_needsSign) (as := [_]) dX12_readAlp_60 lk12_257 inX12_needsSign seX12_needsSign myX12_needsSign (by decide) ⟨by decide, by decide⟩ rfl (kR15 hS1539.1 ta0) (Nat.le_of_ble_eq_true rfl) rfl rfl (by decide) (by decide) (k_X12_needsSign hS1539.1 ta0) ?_
                                    rintro cn' K' N' I1556 R1557 L1558 ⟨rfl, rfl, rfl, rfl, g1559, w1561, -⟩
                                    have hS1562 := hS1539.tr g1559 (by decide +kernel) (by decide +kernel)
                                    have c1563 : I1556 a1 0 = v29 := (g1559.cell ta1 (by decide +kernel)).trans c1542
                                    have c1564 : I1556 a1 1 = v33 := (g1559.cell ta1 (by decide +kernel)).trans c1543
                                    have hO1565 : FrO 14 a1 T I0 I1556 := hO1547.st g1559 (by decide +kernel)
                                    have ov1566 := w1561.over (by rw [c1544]; omega)
                                    obtain ⟨v1567, c1568⟩ : ∃ v, I1556 a0 9 = v := ⟨_, rfl⟩
                                    have b1569 := iv15_9 hS1562.1 ta0 c1568
                                    obtain ⟨v1570, c1571⟩ : ∃ v, I1556 a0 13 = v := ⟨_, rfl⟩
                                    obtain ⟨v1572, c1573⟩ : ∃ v, I1556 a0 14 = v := ⟨_, rfl⟩
                                    (try rw [c1568] at ov1566)
                                    (try rw [c1571] at ov1566)
                                    (try rw [c1573] at ov1566)
                                    (try rw [c1544] at ov1566)
                                    (try rw [c1545] at ov1566)
                                    (try rw [c1546] at ov1566)
                                    refine tr_aload_n dX12_readAlp_63 rfl ?_
                                    refine tr_getR dX12_readAlp_64 fl12_188 (kR15 hS1562.1 ta0) d2 ?_
                                    refine tr_getR dX12_readAlp_67 fl12_260 (kR14 hS1562.1 ta1) d310 ?_
                                    refine tr_iload_n dX12_readAlp_70 rfl ?_
                                    refine tr_aload_n dX12_readAlp_71 rfl ?_
                                    refine q_iconst dX12_readAlp_72 (by decide) ?_
                                    intro v1574 h1575
                                    refine q_bipush dX12_readAlp_73 (by decide +kernel) ?_
                                    intro v1576 h1577
                                    refine q_callVi hE (M' := mX12_readWhole) (as := [_, _]) dX12_readAlp_75 lk12_161 inX12_readWhole seX12_readWhole myX12_readWhole (by decide) ⟨by decide, by decide⟩ rfl (kR15 hS1562.1 ta0) (Nat.le_of_ble_eq_true rfl) rfl rfl (by decide) (by decide) (k_X12_readWhole hS1562.1 ta0) ?_
                                    rintro v1582 cn' K' N' I1578 R1579 L1580 ⟨rfl, rfl, rfl, rfl, g1581, p1583, w1584, -⟩
                                    have hS1585 := hS1562.tr g1581 (by decide +kernel) (by decide +kernel)
                                    have c1586 : I1578 a1 0 = v29 := (g1581.cell ta1 (by decide +kernel)).trans c1563
                                    have c1587 : I1578 a1 1 = v33 := (g1581.cell ta1 (by decide +kernel)).trans c1564
                                    have b1588 : 0 ≤ v1582.toInt ∧ v1582.toInt ≤ 99 := by omega
                                    clear p1583
                                    have hO1589 : FrO 14 a1 T I0 I1578 := hO1565.st g1581 (by decide +kernel)
                                    have ov1590 := w1584.over (by rw [c1568]; omega)
                                    obtain ⟨v1591, c1592⟩ : ∃ v, I1578 a0 9 = v := ⟨_, rfl⟩
                                    have b1593 := iv15_9 hS1585.1 ta0 c1592
                                    obtain ⟨v1594, c1595⟩ : ∃ v, I1578 a0 13 = v := ⟨_, rfl⟩
                                    obtain ⟨v1596, c1597⟩ : ∃ v, I1578 a0 14 = v := ⟨_, rfl⟩
                                    (try rw [c1592] at ov1590)
                                    (try rw [c1595] at ov1590)
                                    (try rw [c1597] at ov1590)
                                    (try rw [c1568] at ov1590)
                                    (try rw [c1571] at ov1590)
                                    (try rw [c1573] at ov1590)
                                    refine q_iast dX12_readAlp_78 (kR53 hS1585.1 ta309) (ti_in (nR53 hS1585.1 ta309) (by omega) (by omega)) hS1585 ta309 (iokF rfl) rfl (by rfl) ?_
                                    intro I1598 hS1599 e1601 f1600
                                    have c1602 : I1598 a1 0 = v29 := (f1600 _ _ (fun q => by have z := ta1; rw [q.1, ta309] at z; exact absurd z (by decide))).trans c1586
                                    have c1603 : I1598 a1 1 = v33 := (f1600 _ _ (fun q => by have z := ta1; rw [q.1, ta309] at z; exact absurd z (by decide))).trans c1587
                                    have c1604 : I1598 a0 9 = v1591 := (f1600 _ _ (fun q => by have z := ta0; rw [q.1, ta309] at z; exact absurd z (by decide))).trans c1592
                                    have c1605 : I1598 a0 13 = v1594 := (f1600 _ _ (fun q => by have z := ta0; rw [q.1, ta309] at z; exact absurd z (by decide))).trans c1595
                                    have c1606 : I1598 a0 14 = v1596 := (f1600 _ _ (fun q => by have z := ta0; rw [q.1, ta309] at z; exact absurd z (by decide))).trans c1597
                                    have hO1607 : FrO 14 a1 T I0 I1598 := hO1589.put f1600 ta309 (Or.inl (by decide))
                                    refine q_iincE dX12_readAlp_79 rfl (by decide) (by decide) (by intros; omega) ?_
                                    intro v1608 h1609
                                    refine tr_goto 48 dX12_readAlp_82 (by decide) ?_
                                    refine tr_iload_n dX12_readAlp_48 rfl ?_
                                    refine q_iconst dX12_readAlp_49 (by decide) ?_
                                    intro v1610 h1611
                                    refine q_icmp_ge 85 dX12_readAlp_50 (by decide) (fun h1612 => ?_) (fun h1612 => ?_)
                                    · skip
                                      exfalso; omega
                                    · skip
                                      refine tr_iload_n dX12_readAlp_53 rfl ?_
                                      refine q_if_le 63 dX12_readAlp_54 (by decide) (fun h1613 => ?_) (fun h1613 => ?_)
                                      · skip
                                        exfalso; omega
                                      · skip
                                        refine tr_aload_n dX12_readAlp_57 rfl ?_
                                        refine q_bipush dX12_readAlp_58 (by decide +kernel) ?_
                                        intro v1614 h1615
                                        refine q_callVv hE (M' := mX12_needsSign) (as := [_]) dX12_readAlp_60 lk12_257 inX12_needsSign seX12_needsSign myX12_needsSign (by decide) ⟨by decide, by decide⟩ rfl (kR15 hS1599.1 ta0) (Nat.le_of_ble_eq_true rfl) rfl rfl (by decide) (by decide) (k_X12_needsSign hS1599.1 ta0) ?_
                                        rintro cn' K' N' I1616 R1617 L1618 ⟨rfl, rfl, rfl, rfl, g1619, w1621, -⟩
                                        have hS1622 := hS1599.tr g1619 (by decide +kernel) (by decide +kernel)
                                        have c1623 : I1616 a1 0 = v29 := (g1619.cell ta1 (by decide +kernel)).trans c1602
                                        have c1624 : I1616 a1 1 = v33 := (g1619.cell ta1 (by decide +kernel)).trans c1603
                                        have hO1625 : FrO 14 a1 T I0 I1616 := hO1607.st g1619 (by decide +kernel)
                                        have ov1626 := w1621.over (by rw [c1604]; omega)
                                        obtain ⟨v1627, c1628⟩ : ∃ v, I1616 a0 9 = v := ⟨_, rfl⟩
                                        have b1629 := iv15_9 hS1622.1 ta0 c1628
                                        obtain ⟨v1630, c1631⟩ : ∃ v, I1616 a0 13 = v := ⟨_, rfl⟩
                                        obtain ⟨v1632, c1633⟩ : ∃ v, I1616 a0 14 = v := ⟨_, rfl⟩
                                        (try rw [c1628] at ov1626)
                                        (try rw [c1631] at ov1626)
                                        (try rw [c1633] at ov1626)
                                        (try rw [c1604] at ov1626)
                                        (try rw [c1605] at ov1626)
                                        (try rw [c1606] at ov1626)
                                        refine tr_aload_n dX12_readAlp_63 rfl ?_
                                        refine tr_getR dX12_readAlp_64 fl12_188 (kR15 hS1622.1 ta0) d2 ?_
                                        refine tr_getR dX12_readAlp_67 fl12_260 (kR14 hS1622.1 ta1) d310 ?_
                                        refine tr_iload_n dX12_readAlp_70 rfl ?_
                                        refine tr_aload_n dX12_readAlp_71 rfl ?_
                                        refine q_iconst dX12_readAlp_72 (by decide) ?_
                                        intro v1634 h1635
                                        refine q_bipush dX12_readAlp_73 (by decide +kernel) ?_
                                        intro v1636 h1637
                                        refine q_callVi hE (M' := mX12_readWhole) (as := [_, _]) dX12_readAlp_75 lk12_161 inX12_readWhole seX12_readWhole myX12_readWhole (by decide) ⟨by decide, by decide⟩ rfl (kR15 hS1622.1 ta0) (Nat.le_of_ble_eq_true rfl) rfl rfl (by decide) (by decide) (k_X12_readWhole hS1622.1 ta0) ?_
                                        rintro v1642 cn' K' N' I1638 R1639 L1640 ⟨rfl, rfl, rfl, rfl, g1641, p1643, w1644, -⟩
                                        have hS1645 := hS1622.tr g1641 (by decide +kernel) (by decide +kernel)
                                        have c1646 : I1638 a1 0 = v29 := (g1641.cell ta1 (by decide +kernel)).trans c1623
                                        have c1647 : I1638 a1 1 = v33 := (g1641.cell ta1 (by decide +kernel)).trans c1624
                                        have b1648 : 0 ≤ v1642.toInt ∧ v1642.toInt ≤ 99 := by omega
                                        clear p1643
                                        have hO1649 : FrO 14 a1 T I0 I1638 := hO1625.st g1641 (by decide +kernel)
                                        have ov1650 := w1644.over (by rw [c1628]; omega)
                                        obtain ⟨v1651, c1652⟩ : ∃ v, I1638 a0 9 = v := ⟨_, rfl⟩
                                        have b1653 := iv15_9 hS1645.1 ta0 c1652
                                        obtain ⟨v1654, c1655⟩ : ∃ v, I1638 a0 13 = v := ⟨_, rfl⟩
                                        obtain ⟨v1656, c1657⟩ : ∃ v, I1638 a0 14 = v := ⟨_, rfl⟩
                                        (try rw [c1652] at ov1650)
                                        (try rw [c1655] at ov1650)
                                        (try rw [c1657] at ov1650)
                                        (try rw [c1628] at ov1650)
                                        (try rw [c1631] at ov1650)
                                        (try rw [c1633] at ov1650)
                                        refine q_iast dX12_readAlp_78 (kR53 hS1645.1 ta309) (ti_in (nR53 hS1645.1 ta309) (by omega) (by omega)) hS1645 ta309 (iokF rfl) rfl (by rfl) ?_
                                        intro I1658 hS1659 e1661 f1660
                                        have c1662 : I1658 a1 0 = v29 := (f1660 _ _ (fun q => by have z := ta1; rw [q.1, ta309] at z; exact absurd z (by decide))).trans c1646
                                        have c1663 : I1658 a1 1 = v33 := (f1660 _ _ (fun q => by have z := ta1; rw [q.1, ta309] at z; exact absurd z (by decide))).trans c1647
                                        have c1664 : I1658 a0 9 = v1651 := (f1660 _ _ (fun q => by have z := ta0; rw [q.1, ta309] at z; exact absurd z (by decide))).trans c1652
                                        have c1665 : I1658 a0 13 = v1654 := (f1660 _ _ (fun q => by have z := ta0; rw [q.1, ta309] at z; exact absurd z (by decide))).trans c1655
                                        have c1666 : I1658 a0 14 = v1656 := (f1660 _ _ (fun q => by have z := ta0; rw [q.1, ta309] at z; exact absurd z (by decide))).trans c1657
                                        have hO1667 : FrO 14 a1 T I0 I1658 := hO1649.put f1660 ta309 (Or.inl (by decide))
                                        refine q_iincE dX12_readAlp_79 rfl (by decide) (by decide) (by intros; omega) ?_
                                        intro v1668 h1669
                                        refine tr_goto 48 dX12_readAlp_82 (by decide) ?_
                                        refine tr_iload_n dX12_readAlp_48 rfl ?_
                                        refine q_iconst dX12_readAlp_49 (by decide) ?_
                                        intro v1670 h1671
                                        refine q_icmp_ge 85 dX12_readAlp_50 (by decide) (fun h1672 => ?_) (fun h1672 => ?_)
                                        · skip
                                          refine tr_aload_n dX12_readAlp_85 rfl ?_
                                          refine q_getI dX12_readAlp_86 fl12_99 (kR15 hS1659.1 ta0) c1664 ?_
                                          refine q_iconst dX12_readAlp_89 (by decide) ?_
                                          intro v1673 h1674
                                          refine q_icmp_ne 94 dX12_readAlp_90 (by decide) (fun h1675 => ?_) (fun h1675 => ?_)
                                          · skip
                                            exfalso; omega
                                          · skip
                                            have eF := hF.eq
                                            have eP := hP.eq
                                            obtain ⟨v1676, c1677⟩ : ∃ v, I1658 a0 10 = v := ⟨_, rfl⟩
                                            have b1678 := iv15_10 hS1659.1 ta0 c1677
                                            obtain ⟨v1679, c1680⟩ : ∃ v, I1658 a0 11 = v := ⟨_, rfl⟩
                                            obtain ⟨y1681, c1682⟩ : ∃ v, L1640 a0 15 = v := ⟨_, rfl⟩
                                            obtain ⟨v1683, c1684⟩ : ∃ v, I1658 a0 12 = v := ⟨_, rfl⟩
                                            obtain ⟨v1685, c1686⟩ : ∃ v, I1658 a0 8 = v := ⟨_, rfl⟩
                                            have b1687 := iv15_8 hS1659.1 ta0 c1686
                                            exact tr_vret hZ dX12_readAlp_93 rfl (by decide) (by decide) ⟨rfl, rfl, rfl, rfl, rfl, hS1659, (fun dr hd => (Option.some.inj (d2.symm.trans hd)) ▸ hO1667), (Or.inr (⟨(by (try rw [w107]); first | done | with_reducible assumption | omega), (by (try rw [w107]); (try rw [c1664]); first | done | with_reducible assumption | omega), (by (try rw [w107]); (try rw [c1665]); first | done | with_reducible assumption | omega), (by (try rw [w107]); (try rw [c1666]); first | done | with_reducible assumption | omega), trivial⟩)), trivial⟩
                                        · skip
                                          exfalso; omega
                            · skip
                              obtain ⟨v1688, c1689⟩ : ∃ v, I518 a0 9 = v := ⟨_, rfl⟩
                              have b1690 := iv15_9 hS526.1 ta0 c1689
                              rw [c1689] at p541
                              obtain ⟨v1691, c1692⟩ : ∃ v, I518 a0 13 = v := ⟨_, rfl⟩
                              rw [c1692] at p542
                              obtain ⟨v1693, c1694⟩ : ∃ v, I518 a0 14 = v := ⟨_, rfl⟩
                              rw [c1694] at p543
                              replace hF := hF.pos (by omega)
                              replace hP := hP.pos (by omega)
                              refine tr_aload_n dX12_readAlp_63 rfl ?_
                              refine tr_getR dX12_readAlp_64 fl12_188 (kR15 hS526.1 ta0) d2 ?_
                              refine tr_getR dX12_readAlp_67 fl12_260 (kR14 hS526.1 ta1) d310 ?_
                              refine tr_iload_n dX12_readAlp_70 rfl ?_
                              refine tr_aload_n dX12_readAlp_71 rfl ?_
                              refine q_iconst dX12_readAlp_72 (by decide) ?_
                              intro v1695 h1696
                              refine q_bipush dX12_readAlp_73 (by decide +kernel) ?_
                              intro v1697 h1698
                              refine q_callVi hE (M' := mX12_readWhole) (as := [_, _]) dX12_readAlp_75 lk12_161 inX12_readWhole seX12_readWhole myX12_readWhole (by decide) ⟨by decide, by decide⟩ rfl (kR15 hS526.1 ta0) (Nat.le_of_ble_eq_true rfl) rfl rfl (by decide) (by decide) (k_X12_readWhole hS526.1 ta0) ?_
                              rintro v1703 cn' K' N' I1699 R1700 L1701 ⟨rfl, rfl, rfl, rfl, g1702, p1704, w1705, -⟩
                              have hS1706 := hS526.tr g1702 (by decide +kernel) (by decide +kernel)
                              have c1707 : I1699 a1 0 = v29 := (g1702.cell ta1 (by decide +kernel)).trans c527
                              have c1708 : I1699 a1 1 = v33 := (g1702.cell ta1 (by decide +kernel)).trans c528
                              have b1709 : 0 ≤ v1703.toInt ∧ v1703.toInt ≤ 99 := by omega
                              clear p1704
                              have hO1710 : FrO 14 a1 T I0 I1699 := hO529.st g1702 (by decide +kernel)
                              have ov1711 := w1705.over (by rw [c1689]; omega)
                              obtain ⟨v1712, c1713⟩ : ∃ v, I1699 a0 9 = v := ⟨_, rfl⟩
                              have b1714 := iv15_9 hS1706.1 ta0 c1713
                              obtain ⟨v1715, c1716⟩ : ∃ v, I1699 a0 13 = v := ⟨_, rfl⟩
                              obtain ⟨v1717, c1718⟩ : ∃ v, I1699 a0 14 = v := ⟨_, rfl⟩
                              (try rw [c1713] at ov1711)
                              (try rw [c1716] at ov1711)
                              (try rw [c1718] at ov1711)
                              (try rw [c1689] at ov1711)
                              (try rw [c1692] at ov1711)
                              (try rw [c1694] at ov1711)
                              refine q_iast dX12_readAlp_78 (kR53 hS1706.1 ta309) (ti_in (nR53 hS1706.1 ta309) (by omega) (by omega)) hS1706 ta309 (iokF rfl) rfl (by rfl) ?_
                              intro I1719 hS1720 e1722 f1721
                              have c1723 : I1719 a1 0 = v29 := (f1721 _ _ (fun q => by have z := ta1; rw [q.1, ta309] at z; exact absurd z (by decide))).trans c1707
                              have c1724 : I1719 a1 1 = v33 := (f1721 _ _ (fun q => by have z := ta1; rw [q.1, ta309] at z; exact absurd z (by decide))).trans c1708
                              have c1725 : I1719 a0 9 = v1712 := (f1721 _ _ (fun q => by have z := ta0; rw [q.1, ta309] at z; exact absurd z (by decide))).trans c1713
                              have c1726 : I1719 a0 13 = v1715 := (f1721 _ _ (fun q => by have z := ta0; rw [q.1, ta309] at z; exact absurd z (by decide))).trans c1716
                              have c1727 : I1719 a0 14 = v1717 := (f1721 _ _ (fun q => by have z := ta0; rw [q.1, ta309] at z; exact absurd z (by decide))).trans c1718
                              have hO1728 : FrO 14 a1 T I0 I1719 := hO1710.put f1721 ta309 (Or.inl (by decide))
                              refine q_iincE dX12_readAlp_79 rfl (by decide) (by decide) (by intros; omega) ?_
                              intro v1729 h1730
                              refine tr_goto 48 dX12_readAlp_82 (by decide) ?_
                              refine tr_iload_n dX12_readAlp_48 rfl ?_
                              refine q_iconst dX12_readAlp_49 (by decide) ?_
                              intro v1731 h1732
                              refine q_icmp_ge 85 dX12_readAlp_50 (by decide) (fun h1733 => ?_) (fun h1733 => ?_)
                              · skip
                                exfalso; omega
                              · skip
                                refine tr_iload_n dX12_readAlp_53 rfl ?_
                                refine q_if_le 63 dX12_readAlp_54 (by decide) (fun h1734 => ?_) (fun h1734 => ?_)
                                · skip
                                  exfalso; omega
                                · skip
                                  refine tr_aload_n dX12_readAlp_57 rfl ?_
                                  refine q_bipush dX12_readAlp_58 (by decide +kernel) ?_
                                  intro v1735 h1736
                                  refine q_callVv hE (M' := mX12_needsSign) (as := [_]) dX12_readAlp_60 lk12_257 inX12_needsSign seX12_needsSign myX12_needsSign (by decide) ⟨by decide, by decide⟩ rfl (kR15 hS1720.1 ta0) (Nat.le_of_ble_eq_true rfl) rfl rfl (by decide) (by decide) (k_X12_needsSign hS1720.1 ta0) ?_
                                  rintro cn' K' N' I1737 R1738 L1739 ⟨rfl, rfl, rfl, rfl, g1740, w1742, -⟩
                                  have hS1743 := hS1720.tr g1740 (by decide +kernel) (by decide +kernel)
                                  have c1744 : I1737 a1 0 = v29 := (g1740.cell ta1 (by decide +kernel)).trans c1723
                                  have c1745 : I1737 a1 1 = v33 := (g1740.cell ta1 (by decide +kernel)).trans c1724
                                  have hO1746 : FrO 14 a1 T I0 I1737 := hO1728.st g1740 (by decide +kernel)
                                  have ov1747 := w1742.over (by rw [c1725]; omega)
                                  obtain ⟨v1748, c1749⟩ : ∃ v, I1737 a0 9 = v := ⟨_, rfl⟩
                                  have b1750 := iv15_9 hS1743.1 ta0 c1749
                                  obtain ⟨v1751, c1752⟩ : ∃ v, I1737 a0 13 = v := ⟨_, rfl⟩
                                  obtain ⟨v1753, c1754⟩ : ∃ v, I1737 a0 14 = v := ⟨_, rfl⟩
                                  (try rw [c1749] at ov1747)
                                  (try rw [c1752] at ov1747)
                                  (try rw [c1754] at ov1747)
                                  (try rw [c1725] at ov1747)
                                  (try rw [c1726] at ov1747)
                                  (try rw [c1727] at ov1747)
                                  refine tr_aload_n dX12_readAlp_63 rfl ?_
                                  refine tr_getR dX12_readAlp_64 fl12_188 (kR15 hS1743.1 ta0) d2 ?_
                                  refine tr_getR dX12_readAlp_67 fl12_260 (kR14 hS1743.1 ta1) d310 ?_
                                  refine tr_iload_n dX12_readAlp_70 rfl ?_
                                  refine tr_aload_n dX12_readAlp_71 rfl ?_
                                  refine q_iconst dX12_readAlp_72 (by decide) ?_
                                  intro v1755 h1756
                                  refine q_bipush dX12_readAlp_73 (by decide +kernel) ?_
                                  intro v1757 h1758
                                  refine q_callVi hE (M' := mX12_readWhole) (as := [_, _]) dX12_readAlp_75 lk12_161 inX12_readWhole seX12_readWhole myX12_readWhole (by decide) ⟨by decide, by decide⟩ rfl (kR15 hS1743.1 ta0) (Nat.le_of_ble_eq_true rfl) rfl rfl (by decide) (by decide) (k_X12_readWhole hS1743.1 ta0) ?_
                                  rintro v1763 cn' K' N' I1759 R1760 L1761 ⟨rfl, rfl, rfl, rfl, g1762, p1764, w1765, -⟩
                                  have hS1766 := hS1743.tr g1762 (by decide +kernel) (by decide +kernel)
                                  have c1767 : I1759 a1 0 = v29 := (g1762.cell ta1 (by decide +kernel)).trans c1744
                                  have c1768 : I1759 a1 1 = v33 := (g1762.cell ta1 (by decide +kernel)).trans c1745
                                  have b1769 : 0 ≤ v1763.toInt ∧ v1763.toInt ≤ 99 := by omega
                                  clear p1764
                                  have hO1770 : FrO 14 a1 T I0 I1759 := hO1746.st g1762 (by decide +kernel)
                                  have ov1771 := w1765.over (by rw [c1749]; omega)
                                  obtain ⟨v1772, c1773⟩ : ∃ v, I1759 a0 9 = v := ⟨_, rfl⟩
                                  have b1774 := iv15_9 hS1766.1 ta0 c1773
                                  obtain ⟨v1775, c1776⟩ : ∃ v, I1759 a0 13 = v := ⟨_, rfl⟩
                                  obtain ⟨v1777, c1778⟩ : ∃ v, I1759 a0 14 = v := ⟨_, rfl⟩
                                  (try rw [c1773] at ov1771)
                                  (try rw [c1776] at ov1771)
                                  (try rw [c1778] at ov1771)
                                  (try rw [c1749] at ov1771)
                                  (try rw [c1752] at ov1771)
                                  (try rw [c1754] at ov1771)
                                  refine q_iast dX12_readAlp_78 (kR53 hS1766.1 ta309) (ti_in (nR53 hS1766.1 ta309) (by omega) (by omega)) hS1766 ta309 (iokF rfl) rfl (by rfl) ?_
                                  intro I1779 hS1780 e1782 f1781
                                  have c1783 : I1779 a1 0 = v29 := (f1781 _ _ (fun q => by have z := ta1; rw [q.1, ta309] at z; exact absurd z (by decide))).trans c1767
                                  have c1784 : I1779 a1 1 = v33 := (f1781 _ _ (fun q => by have z := ta1; rw [q.1, ta309] at z; exact absurd z (by decide))).trans c1768
                                  have c1785 : I1779 a0 9 = v1772 := (f1781 _ _ (fun q => by have z := ta0; rw [q.1, ta309] at z; exact absurd z (by decide))).trans c1773
                                  have c1786 : I1779 a0 13 = v1775 := (f1781 _ _ (fun q => by have z := ta0; rw [q.1, ta309] at z; exact absurd z (by decide))).trans c1776
                                  have c1787 : I1779 a0 14 = v1777 := (f1781 _ _ (fun q => by have z := ta0; rw [q.1, ta309] at z; exact absurd z (by decide))).trans c1778
                                  have hO1788 : FrO 14 a1 T I0 I1779 := hO1770.put f1781 ta309 (Or.inl (by decide))
                                  refine q_iincE dX12_readAlp_79 rfl (by decide) (by decide) (by intros; omega) ?_
                                  intro v1789 h1790
                                  refine tr_goto 48 dX12_readAlp_82 (by decide) ?_
                                  refine tr_iload_n dX12_readAlp_48 rfl ?_
                                  refine q_iconst dX12_readAlp_49 (by decide) ?_
                                  intro v1791 h1792
                                  refine q_icmp_ge 85 dX12_readAlp_50 (by decide) (fun h1793 => ?_) (fun h1793 => ?_)
                                  · skip
                                    exfalso; omega
                                  · skip
                                    refine tr_iload_n dX12_readAlp_53 rfl ?_
                                    refine q_if_le 63 dX12_readAlp_54 (by decide) (fun h1794 => ?_) (fun h1794 => ?_)
                                    · skip
                                      exfalso; omega
                                    · skip
                                      refine tr_aload_n dX12_readAlp_57 rfl ?_
                                      refine q_bipush dX12_readAlp_58 (by decide +kernel) ?_
                                      intro v1795 h1796
                                      refine q_callVv hE (M' := mX12_needsSign) (as := [_]) dX12_readAlp_60 lk12_257 inX12_needsSign seX12_needsSign myX12_needsSign (by decide) ⟨by decide, by decide⟩ rfl (kR15 hS1780.1 ta0) (Nat.le_of_ble_eq_true rfl) rfl rfl (by decide) (by decide) (k_X12_needsSign hS1780.1 ta0) ?_
                                      rintro cn' K' N' I1797 R1798 L1799 ⟨rfl, rfl, rfl, rfl, g1800, w1802, -⟩
                                      have hS1803 := hS1780.tr g1800 (by decide +kernel) (by decide +kernel)
                                      have c1804 : I1797 a1 0 = v29 := (g1800.cell ta1 (by decide +kernel)).trans c1783
                                      have c1805 : I1797 a1 1 = v33 := (g1800.cell ta1 (by decide +kernel)).trans c1784
                                      have hO1806 : FrO 14 a1 T I0 I1797 := hO1788.st g1800 (by decide +kernel)
                                      have ov1807 := w1802.over (by rw [c1785]; omega)
                                      obtain ⟨v1808, c1809⟩ : ∃ v, I1797 a0 9 = v := ⟨_, rfl⟩
                                      have b1810 := iv15_9 hS1803.1 ta0 c1809
                                      obtain ⟨v1811, c1812⟩ : ∃ v, I1797 a0 13 = v := ⟨_, rfl⟩
                                      obtain ⟨v1813, c1814⟩ : ∃ v, I1797 a0 14 = v := ⟨_, rfl⟩
                                      (try rw [c1809] at ov1807)
                                      (try rw [c1812] at ov1807)
                                      (try rw [c1814] at ov1807)
                                      (try rw [c1785] at ov1807)
                                      (try rw [c1786] at ov1807)
                                      (try rw [c1787] at ov1807)
                                      refine tr_aload_n dX12_readAlp_63 rfl ?_
                                      refine tr_getR dX12_readAlp_64 fl12_188 (kR15 hS1803.1 ta0) d2 ?_
                                      refine tr_getR dX12_readAlp_67 fl12_260 (kR14 hS1803.1 ta1) d310 ?_
                                      refine tr_iload_n dX12_readAlp_70 rfl ?_
                                      refine tr_aload_n dX12_readAlp_71 rfl ?_
                                      refine q_iconst dX12_readAlp_72 (by decide) ?_
                                      intro v1815 h1816
                                      refine q_bipush dX12_readAlp_73 (by decide +kernel) ?_
                                      intro v1817 h1818
                                      refine q_callVi hE (M' := mX12_readWhole) (as := [_, _]) dX12_readAlp_75 lk12_161 inX12_readWhole seX12_readWhole myX12_readWhole (by decide) ⟨by decide, by decide⟩ rfl (kR15 hS1803.1 ta0) (Nat.le_of_ble_eq_true rfl) rfl rfl (by decide) (by decide) (k_X12_readWhole hS1803.1 ta0) ?_
                                      rintro v1823 cn' K' N' I1819 R1820 L1821 ⟨rfl, rfl, rfl, rfl, g1822, p1824, w1825, -⟩
                                      have hS1826 := hS1803.tr g1822 (by decide +kernel) (by decide +kernel)
                                      have c1827 : I1819 a1 0 = v29 := (g1822.cell ta1 (by decide +kernel)).trans c1804
                                      have c1828 : I1819 a1 1 = v33 := (g1822.cell ta1 (by decide +kernel)).trans c1805
                                      have b1829 : 0 ≤ v1823.toInt ∧ v1823.toInt ≤ 99 := by omega
                                      clear p1824
                                      have hO1830 : FrO 14 a1 T I0 I1819 := hO1806.st g1822 (by decide +kernel)
                                      have ov1831 := w1825.over (by rw [c1809]; omega)
                                      obtain ⟨v1832, c1833⟩ : ∃ v, I1819 a0 9 = v := ⟨_, rfl⟩
                                      have b1834 := iv15_9 hS1826.1 ta0 c1833
                                      obtain ⟨v1835, c1836⟩ : ∃ v, I1819 a0 13 = v := ⟨_, rfl⟩
                                      obtain ⟨v1837, c1838⟩ : ∃ v, I1819 a0 14 = v := ⟨_, rfl⟩
                                      (try rw [c1833] at ov1831)
                                      (try rw [c1836] at ov1831)
                                      (try rw [c1838] at ov1831)
                                      (try rw [c1809] at ov1831)
                                      (try rw [c1812] at ov1831)
                                      (try rw [c1814] at ov1831)
                                      refine q_iast dX12_readAlp_78 (kR53 hS1826.1 ta309) (ti_in (nR53 hS1826.1 ta309) (by omega) (by omega)) hS1826 ta309 (iokF rfl) rfl (by rfl) ?_
                                      intro I1839 hS1840 e1842 f1841
                                      have c1843 : I1839 a1 0 = v29 := (f1841 _ _ (fun q => by have z := ta1; rw [q.1, ta309] at z; exact absurd z (by decide))).trans c1827
                                      have c1844 : I1839 a1 1 = v33 := (f1841 _ _ (fun q => by have z := ta1; rw [q.1, ta309] at z; exact absurd z (by decide))).trans c1828
                                      have c1845 : I1839 a0 9 = v1832 := (f1841 _ _ (fun q => by have z := ta0; rw [q.1, ta309] at z; exact absurd z (by decide))).trans c1833
                                      have c1846 : I1839 a0 13 = v1835 := (f1841 _ _ (fun q => by have z := ta0; rw [q.1, ta309] at z; exact absurd z (by decide))).trans c1836
                                      have c1847 : I1839 a0 14 = v1837 := (f1841 _ _ (fun q => by have z := ta0; rw [q.1, ta309] at z; exact absurd z (by decide))).trans c1838
                                      have hO1848 : FrO 14 a1 T I0 I1839 := hO1830.put f1841 ta309 (Or.inl (by decide))
                                      refine q_iincE dX12_readAlp_79 rfl (by decide) (by decide) (by intros; omega) ?_
                                      intro v1849 h1850
                                      refine tr_goto 48 dX12_readAlp_82 (by decide) ?_
                                      refine tr_iload_n dX12_readAlp_48 rfl ?_
                                      refine q_iconst dX12_readAlp_49 (by decide) ?_
                                      intro v1851 h1852
                                      refine q_icmp_ge 85 dX12_readAlp_50 (by decide) (fun h1853 => ?_) (fun h1853 => ?_)
                                      · skip
                                        refine tr_aload_n dX12_readAlp_85 rfl ?_
                                        refine q_getI dX12_readAlp_86 fl12_99 (kR15 hS1840.1 ta0) c1845 ?_
                                        refine q_iconst dX12_readAlp_89 (by decide) ?_
                                        intro v1854 h1855
                                        refine q_icmp_ne 94 dX12_readAlp_90 (by decide) (fun h1856 => ?_) (fun h1856 => ?_)
                                        · skip
                                          exfalso; omega
                                        · skip
                                          have eF := hF.eq
                                          have eP := hP.eq
                                          obtain ⟨v1857, c1858⟩ : ∃ v, I1839 a0 10 = v := ⟨_, rfl⟩
                                          have b1859 := iv15_10 hS1840.1 ta0 c1858
                                          obtain ⟨v1860, c1861⟩ : ∃ v, I1839 a0 11 = v := ⟨_, rfl⟩
                                          obtain ⟨y1862, c1863⟩ : ∃ v, L1821 a0 15 = v := ⟨_, rfl⟩
                                          obtain ⟨v1864, c1865⟩ : ∃ v, I1839 a0 12 = v := ⟨_, rfl⟩
                                          obtain ⟨v1866, c1867⟩ : ∃ v, I1839 a0 8 = v := ⟨_, rfl⟩
                                          have b1868 := iv15_8 hS1840.1 ta0 c1867
                                          exact tr_vret hZ dX12_readAlp_93 rfl (by decide) (by decide) ⟨rfl, rfl, rfl, rfl, rfl, hS1840, (fun dr hd => (Option.some.inj (d2.symm.trans hd)) ▸ hO1848), (Or.inr (⟨(by (try rw [w107]); first | done | with_reducible assumption | omega), (by (try rw [w107]); (try rw [c1845]); first | done | with_reducible assumption | omega), (by (try rw [w107]); (try rw [c1846]); first | done | with_reducible assumption | omega), (by (try rw [w107]); (try rw [c1847]); first | done | with_reducible assumption | omega), trivial⟩)), trivial⟩
                                      · skip
                                        exfalso; omega
                      · skip
                        obtain ⟨v1869, c1870⟩ : ∃ v, I441 a0 9 = v := ⟨_, rfl⟩
                        have b1871 := iv15_9 hS449.1 ta0 c1870
                        rw [c1870] at p468
                        obtain ⟨v1872, c1873⟩ : ∃ v, I441 a0 13 = v := ⟨_, rfl⟩
                        rw [c1873] at p469
                        obtain ⟨v1874, c1875⟩ : ∃ v, I441 a0 14 = v := ⟨_, rfl⟩
                        rw [c1875] at p470
                        replace hF := hF.pos (by omega)
                        replace hP := hP.pos (by omega)
                        refine q_iast dX12_readAlp_78 (kR53 hS449.1 ta309) (ti_in (nR53 hS449.1 ta309) (by omega) (by omega)) hS449 ta309 (iokF rfl) rfl (by rfl) ?_
                        intro I1876 hS1877 e1879 f1878
                        have c1880 : I1876 a1 0 = v29 := (f1878 _ _ (fun q => by have z := ta1; rw [q.1, ta309] at z; exact absurd z (by decide))).trans c450
                        have c1881 : I1876 a1 1 = v33 := (f1878 _ _ (fun q => by have z := ta1; rw [q.1, ta309] at z; exact absurd z (by decide))).trans c451
                        have c1882 : I1876 a0 9 = v1869 := (f1878 _ _ (fun q => by have z := ta0; rw [q.1, ta309] at z; exact absurd z (by decide))).trans c1870
                        have c1883 : I1876 a0 13 = v1872 := (f1878 _ _ (fun q => by have z := ta0; rw [q.1, ta309] at z; exact absurd z (by decide))).trans c1873
                        have c1884 : I1876 a0 14 = v1874 := (f1878 _ _ (fun q => by have z := ta0; rw [q.1, ta309] at z; exact absurd z (by decide))).trans c1875
                        have hO1885 : FrO 14 a1 T I0 I1876 := hO452.put f1878 ta309 (Or.inl (by decide))
                        refine q_iincE dX12_readAlp_79 rfl (by decide) (by decide) (by intros; omega) ?_
                        intro v1886 h1887
                        refine tr_goto 48 dX12_readAlp_82 (by decide) ?_
                        refine tr_iload_n dX12_readAlp_48 rfl ?_
                        refine q_iconst dX12_readAlp_49 (by decide) ?_
                        intro v1888 h1889
                        refine q_icmp_ge 85 dX12_readAlp_50 (by decide) (fun h1890 => ?_) (fun h1890 => ?_)
                        · skip
                          exfalso; omega
                        · skip
                          refine tr_iload_n dX12_readAlp_53 rfl ?_
                          refine q_if_le 63 dX12_readAlp_54 (by decide) (fun h1891 => ?_) (fun h1891 => ?_)
                          · skip
                            exfalso; omega
                          · skip
                            refine tr_aload_n dX12_readAlp_57 rfl ?_
                            refine q_bipush dX12_readAlp_58 (by decide +kernel) ?_
                            intro v1892 h1893
                            refine q_callVv hE (M' := mX12_needsSign) (as := [_]) dX12_readAlp_60 lk12_257 inX12_needsSign seX12_needsSign myX12_needsSign (by decide) ⟨by decide, by decide⟩ rfl (kR15 hS1877.1 ta0) (Nat.le_of_ble_eq_true rfl) rfl rfl (by decide) (by decide) (k_X12_needsSign hS1877.1 ta0) ?_
                            rintro cn' K' N' I1894 R1895 L1896 ⟨rfl, rfl, rfl, rfl, g1897, w1899, -⟩
                            have hS1900 := hS1877.tr g1897 (by decide +kernel) (by decide +kernel)
                            have c1901 : I1894 a1 0 = v29 := (g1897.cell ta1 (by decide +kernel)).trans c1880
                            have c1902 : I1894 a1 1 = v33 := (g1897.cell ta1 (by decide +kernel)).trans c1881
                            have hO1903 : FrO 14 a1 T I0 I1894 := hO1885.st g1897 (by decide +kernel)
                            have ov1904 := w1899.over (by rw [c1882]; omega)
                            obtain ⟨v1905, c1906⟩ : ∃ v, I1894 a0 9 = v := ⟨_, rfl⟩
                            have b1907 := iv15_9 hS1900.1 ta0 c1906
                            obtain ⟨v1908, c1909⟩ : ∃ v, I1894 a0 13 = v := ⟨_, rfl⟩
                            obtain ⟨v1910, c1911⟩ : ∃ v, I1894 a0 14 = v := ⟨_, rfl⟩
                            (try rw [c1906] at ov1904)
                            (try rw [c1909] at ov1904)
                            (try rw [c1911] at ov1904)
                            (try rw [c1882] at ov1904)
                            (try rw [c1883] at ov1904)
                            (try rw [c1884] at ov1904)
                            refine tr_aload_n dX12_readAlp_63 rfl ?_
                            refine tr_getR dX12_readAlp_64 fl12_188 (kR15 hS1900.1 ta0) d2 ?_
                            refine tr_getR dX12_readAlp_67 fl12_260 (kR14 hS1900.1 ta1) d310 ?_
                            refine tr_iload_n dX12_readAlp_70 rfl ?_
                            refine tr_aload_n dX12_readAlp_71 rfl ?_
                            refine q_iconst dX12_readAlp_72 (by decide) ?_
                            intro v1912 h1913
                            refine q_bipush dX12_readAlp_73 (by decide +kernel) ?_
                            intro v1914 h1915
                            refine q_callVi hE (M' := mX12_readWhole) (as := [_, _]) dX12_readAlp_75 lk12_161 inX12_readWhole seX12_readWhole myX12_readWhole (by decide) ⟨by decide, by decide⟩ rfl (kR15 hS1900.1 ta0) (Nat.le_of_ble_eq_true rfl) rfl rfl (by decide) (by decide) (k_X12_readWhole hS1900.1 ta0) ?_
                            rintro v1920 cn' K' N' I1916 R1917 L1918 ⟨rfl, rfl, rfl, rfl, g1919, p1921, w1922, -⟩
                            have hS1923 := hS1900.tr g1919 (by decide +kernel) (by decide +kernel)
                            have c1924 : I1916 a1 0 = v29 := (g1919.cell ta1 (by decide +kernel)).trans c1901
                            have c1925 : I1916 a1 1 = v33 := (g1919.cell ta1 (by decide +kernel)).trans c1902
                            have b1926 : 0 ≤ v1920.toInt ∧ v1920.toInt ≤ 99 := by omega
                            clear p1921
                            have hO1927 : FrO 14 a1 T I0 I1916 := hO1903.st g1919 (by decide +kernel)
                            have ov1928 := w1922.over (by rw [c1906]; omega)
                            obtain ⟨v1929, c1930⟩ : ∃ v, I1916 a0 9 = v := ⟨_, rfl⟩
                            have b1931 := iv15_9 hS1923.1 ta0 c1930
                            obtain ⟨v1932, c1933⟩ : ∃ v, I1916 a0 13 = v := ⟨_, rfl⟩
                            obtain ⟨v1934, c1935⟩ : ∃ v, I1916 a0 14 = v := ⟨_, rfl⟩
                            (try rw [c1930] at ov1928)
                            (try rw [c1933] at ov1928)
                            (try rw [c1935] at ov1928)
                            (try rw [c1906] at ov1928)
                            (try rw [c1909] at ov1928)
                            (try rw [c1911] at ov1928)
                            refine q_iast dX12_readAlp_78 (kR53 hS1923.1 ta309) (ti_in (nR53 hS1923.1 ta309) (by omega) (by omega)) hS1923 ta309 (iokF rfl) rfl (by rfl) ?_
                            intro I1936 hS1937 e1939 f1938
                            have c1940 : I1936 a1 0 = v29 := (f1938 _ _ (fun q => by have z := ta1; rw [q.1, ta309] at z; exact absurd z (by decide))).trans c1924
                            have c1941 : I1936 a1 1 = v33 := (f1938 _ _ (fun q => by have z := ta1; rw [q.1, ta309] at z; exact absurd z (by decide))).trans c1925
                            have c1942 : I1936 a0 9 = v1929 := (f1938 _ _ (fun q => by have z := ta0; rw [q.1, ta309] at z; exact absurd z (by decide))).trans c1930
                            have c1943 : I1936 a0 13 = v1932 := (f1938 _ _ (fun q => by have z := ta0; rw [q.1, ta309] at z; exact absurd z (by decide))).trans c1933
                            have c1944 : I1936 a0 14 = v1934 := (f1938 _ _ (fun q => by have z := ta0; rw [q.1, ta309] at z; exact absurd z (by decide))).trans c1935
                            have hO1945 : FrO 14 a1 T I0 I1936 := hO1927.put f1938 ta309 (Or.inl (by decide))
                            refine q_iincE dX12_readAlp_79 rfl (by decide) (by decide) (by intros; omega) ?_
                            intro v1946 h1947
                            refine tr_goto 48 dX12_readAlp_82 (by decide) ?_
                            refine tr_iload_n dX12_readAlp_48 rfl ?_
                            refine q_iconst dX12_readAlp_49 (by decide) ?_
                            intro v1948 h1949
                            refine q_icmp_ge 85 dX12_readAlp_50 (by decide) (fun h1950 => ?_) (fun h1950 => ?_)
                            · skip
                              exfalso; omega
                            · skip
                              refine tr_iload_n dX12_readAlp_53 rfl ?_
                              refine q_if_le 63 dX12_readAlp_54 (by decide) (fun h1951 => ?_) (fun h1951 => ?_)
                              · skip
                                exfalso; omega
                              · skip
                                refine tr_aload_n dX12_readAlp_57 rfl ?_
                                refine q_bipush dX12_readAlp_58 (by decide +kernel) ?_
                                intro v1952 h1953
                                refine q_callVv hE (M' := mX12_needsSign) (as := [_]) dX12_readAlp_60 lk12_257 inX12_needsSign seX12_needsSign myX12_needsSign (by decide) ⟨by decide, by decide⟩ rfl (kR15 hS1937.1 ta0) (Nat.le_of_ble_eq_true rfl) rfl rfl (by decide) (by decide) (k_X12_needsSign hS1937.1 ta0) ?_
                                rintro cn' K' N' I1954 R1955 L1956 ⟨rfl, rfl, rfl, rfl, g1957, w1959, -⟩
                                have hS1960 := hS1937.tr g1957 (by decide +kernel) (by decide +kernel)
                                have c1961 : I1954 a1 0 = v29 := (g1957.cell ta1 (by decide +kernel)).trans c1940
                                have c1962 : I1954 a1 1 = v33 := (g1957.cell ta1 (by decide +kernel)).trans c1941
                                have hO1963 : FrO 14 a1 T I0 I1954 := hO1945.st g1957 (by decide +kernel)
                                have ov1964 := w1959.over (by rw [c1942]; omega)
                                obtain ⟨v1965, c1966⟩ : ∃ v, I1954 a0 9 = v := ⟨_, rfl⟩
                                have b1967 := iv15_9 hS1960.1 ta0 c1966
                                obtain ⟨v1968, c1969⟩ : ∃ v, I1954 a0 13 = v := ⟨_, rfl⟩
                                obtain ⟨v1970, c1971⟩ : ∃ v, I1954 a0 14 = v := ⟨_, rfl⟩
                                (try rw [c1966] at ov1964)
                                (try rw [c1969] at ov1964)
                                (try rw [c1971] at ov1964)
                                (try rw [c1942] at ov1964)
                                (try rw [c1943] at ov1964)
                                (try rw [c1944] at ov1964)
                                refine tr_aload_n dX12_readAlp_63 rfl ?_
                                refine tr_getR dX12_readAlp_64 fl12_188 (kR15 hS1960.1 ta0) d2 ?_
                                refine tr_getR dX12_readAlp_67 fl12_260 (kR14 hS1960.1 ta1) d310 ?_
                                refine tr_iload_n dX12_readAlp_70 rfl ?_
                                refine tr_aload_n dX12_readAlp_71 rfl ?_
                                refine q_iconst dX12_readAlp_72 (by decide) ?_
                                intro v1972 h1973
                                refine q_bipush dX12_readAlp_73 (by decide +kernel) ?_
                                intro v1974 h1975
                                refine q_callVi hE (M' := mX12_readWhole) (as := [_, _]) dX12_readAlp_75 lk12_161 inX12_readWhole seX12_readWhole myX12_readWhole (by decide) ⟨by decide, by decide⟩ rfl (kR15 hS1960.1 ta0) (Nat.le_of_ble_eq_true rfl) rfl rfl (by decide) (by decide) (k_X12_readWhole hS1960.1 ta0) ?_
                                rintro v1980 cn' K' N' I1976 R1977 L1978 ⟨rfl, rfl, rfl, rfl, g1979, p1981, w1982, -⟩
                                have hS1983 := hS1960.tr g1979 (by decide +kernel) (by decide +kernel)
                                have c1984 : I1976 a1 0 = v29 := (g1979.cell ta1 (by decide +kernel)).trans c1961
                                have c1985 : I1976 a1 1 = v33 := (g1979.cell ta1 (by decide +kernel)).trans c1962
                                have b1986 : 0 ≤ v1980.toInt ∧ v1980.toInt ≤ 99 := by omega
                                clear p1981
                                have hO1987 : FrO 14 a1 T I0 I1976 := hO1963.st g1979 (by decide +kernel)
                                have ov1988 := w1982.over (by rw [c1966]; omega)
                                obtain ⟨v1989, c1990⟩ : ∃ v, I1976 a0 9 = v := ⟨_, rfl⟩
                                have b1991 := iv15_9 hS1983.1 ta0 c1990
                                obtain ⟨v1992, c1993⟩ : ∃ v, I1976 a0 13 = v := ⟨_, rfl⟩
                                obtain ⟨v1994, c1995⟩ : ∃ v, I1976 a0 14 = v := ⟨_, rfl⟩
                                (try rw [c1990] at ov1988)
                                (try rw [c1993] at ov1988)
                                (try rw [c1995] at ov1988)
                                (try rw [c1966] at ov1988)
                                (try rw [c1969] at ov1988)
                                (try rw [c1971] at ov1988)
                                refine q_iast dX12_readAlp_78 (kR53 hS1983.1 ta309) (ti_in (nR53 hS1983.1 ta309) (by omega) (by omega)) hS1983 ta309 (iokF rfl) rfl (by rfl) ?_
                                intro I1996 hS1997 e1999 f1998
                                have c2000 : I1996 a1 0 = v29 := (f1998 _ _ (fun q => by have z := ta1; rw [q.1, ta309] at z; exact absurd z (by decide))).trans c1984
                                have c2001 : I1996 a1 1 = v33 := (f1998 _ _ (fun q => by have z := ta1; rw [q.1, ta309] at z; exact absurd z (by decide))).trans c1985
                                have c2002 : I1996 a0 9 = v1989 := (f1998 _ _ (fun q => by have z := ta0; rw [q.1, ta309] at z; exact absurd z (by decide))).trans c1990
                                have c2003 : I1996 a0 13 = v1992 := (f1998 _ _ (fun q => by have z := ta0; rw [q.1, ta309] at z; exact absurd z (by decide))).trans c1993
                                have c2004 : I1996 a0 14 = v1994 := (f1998 _ _ (fun q => by have z := ta0; rw [q.1, ta309] at z; exact absurd z (by decide))).trans c1995
                                have hO2005 : FrO 14 a1 T I0 I1996 := hO1987.put f1998 ta309 (Or.inl (by decide))
                                refine q_iincE dX12_readAlp_79 rfl (by decide) (by decide) (by intros; omega) ?_
                                intro v2006 h2007
                                refine tr_goto 48 dX12_readAlp_82 (by decide) ?_
                                refine tr_iload_n dX12_readAlp_48 rfl ?_
                                refine q_iconst dX12_readAlp_49 (by decide) ?_
                                intro v2008 h2009
                                refine q_icmp_ge 85 dX12_readAlp_50 (by decide) (fun h2010 => ?_) (fun h2010 => ?_)
                                · skip
                                  exfalso; omega
                                · skip
                                  refine tr_iload_n dX12_readAlp_53 rfl ?_
                                  refine q_if_le 63 dX12_readAlp_54 (by decide) (fun h2011 => ?_) (fun h2011 => ?_)
                                  · skip
                                    exfalso; omega
                                  · skip
                                    refine tr_aload_n dX12_readAlp_57 rfl ?_
                                    refine q_bipush dX12_readAlp_58 (by decide +kernel) ?_
                                    intro v2012 h2013
                                    refine q_callVv hE (M' := mX12_needsSign) (as := [_]) dX12_readAlp_60 lk12_257 inX12_needsSign seX12_needsSign myX12_needsSign (by decide) ⟨by decide, by decide⟩ rfl (kR15 hS1997.1 ta0) (Nat.le_of_ble_eq_true rfl) rfl rfl (by decide) (by decide) (k_X12_needsSign hS1997.1 ta0) ?_
                                    rintro cn' K' N' I2014 R2015 L2016 ⟨rfl, rfl, rfl, rfl, g2017, w2019, -⟩
                                    have hS2020 := hS1997.tr g2017 (by decide +kernel) (by decide +kernel)
                                    have c2021 : I2014 a1 0 = v29 := (g2017.cell ta1 (by decide +kernel)).trans c2000
                                    have c2022 : I2014 a1 1 = v33 := (g2017.cell ta1 (by decide +kernel)).trans c2001
                                    have hO2023 : FrO 14 a1 T I0 I2014 := hO2005.st g2017 (by decide +kernel)
                                    have ov2024 := w2019.over (by rw [c2002]; omega)
                                    obtain ⟨v2025, c2026⟩ : ∃ v, I2014 a0 9 = v := ⟨_, rfl⟩
                                    have b2027 := iv15_9 hS2020.1 ta0 c2026
                                    obtain ⟨v2028, c2029⟩ : ∃ v, I2014 a0 13 = v := ⟨_, rfl⟩
                                    obtain ⟨v2030, c2031⟩ : ∃ v, I2014 a0 14 = v := ⟨_, rfl⟩
                                    (try rw [c2026] at ov2024)
                                    (try rw [c2029] at ov2024)
                                    (try rw [c2031] at ov2024)
                                    (try rw [c2002] at ov2024)
                                    (try rw [c2003] at ov2024)
                                    (try rw [c2004] at ov2024)
                                    refine tr_aload_n dX12_readAlp_63 rfl ?_
                                    refine tr_getR dX12_readAlp_64 fl12_188 (kR15 hS2020.1 ta0) d2 ?_
                                    refine tr_getR dX12_readAlp_67 fl12_260 (kR14 hS2020.1 ta1) d310 ?_
                                    refine tr_iload_n dX12_readAlp_70 rfl ?_
                                    refine tr_aload_n dX12_readAlp_71 rfl ?_
                                    refine q_iconst dX12_readAlp_72 (by decide) ?_
                                    intro v2032 h2033
                                    refine q_bipush dX12_readAlp_73 (by decide +kernel) ?_
                                    intro v2034 h2035
                                    refine q_callVi hE (M' := mX12_readWhole) (as := [_, _]) dX12_readAlp_75 lk12_161 inX12_readWhole seX12_readWhole myX12_readWhole (by decide) ⟨by decide, by decide⟩ rfl (kR15 hS2020.1 ta0) (Nat.le_of_ble_eq_true rfl) rfl rfl (by decide) (by decide) (k_X12_readWhole hS2020.1 ta0) ?_
                                    rintro v2040 cn' K' N' I2036 R2037 L2038 ⟨rfl, rfl, rfl, rfl, g2039, p2041, w2042, -⟩
                                    have hS2043 := hS2020.tr g2039 (by decide +kernel) (by decide +kernel)
                                    have c2044 : I2036 a1 0 = v29 := (g2039.cell ta1 (by decide +kernel)).trans c2021
                                    have c2045 : I2036 a1 1 = v33 := (g2039.cell ta1 (by decide +kernel)).trans c2022
                                    have b2046 : 0 ≤ v2040.toInt ∧ v2040.toInt ≤ 99 := by omega
                                    clear p2041
                                    have hO2047 : FrO 14 a1 T I0 I2036 := hO2023.st g2039 (by decide +kernel)
                                    have ov2048 := w2042.over (by rw [c2026]; omega)
                                    obtain ⟨v2049, c2050⟩ : ∃ v, I2036 a0 9 = v := ⟨_, rfl⟩
                                    have b2051 := iv15_9 hS2043.1 ta0 c2050
                                    obtain ⟨v2052, c2053⟩ : ∃ v, I2036 a0 13 = v := ⟨_, rfl⟩
                                    obtain ⟨v2054, c2055⟩ : ∃ v, I2036 a0 14 = v := ⟨_, rfl⟩
                                    (try rw [c2050] at ov2048)
                                    (try rw [c2053] at ov2048)
                                    (try rw [c2055] at ov2048)
                                    (try rw [c2026] at ov2048)
                                    (try rw [c2029] at ov2048)
                                    (try rw [c2031] at ov2048)
                                    refine q_iast dX12_readAlp_78 (kR53 hS2043.1 ta309) (ti_in (nR53 hS2043.1 ta309) (by omega) (by omega)) hS2043 ta309 (iokF rfl) rfl (by rfl) ?_
                                    intro I2056 hS2057 e2059 f2058
                                    have c2060 : I2056 a1 0 = v29 := (f2058 _ _ (fun q => by have z := ta1; rw [q.1, ta309] at z; exact absurd z (by decide))).trans c2044
                                    have c2061 : I2056 a1 1 = v33 := (f2058 _ _ (fun q => by have z := ta1; rw [q.1, ta309] at z; exact absurd z (by decide))).trans c2045
                                    have c2062 : I2056 a0 9 = v2049 := (f2058 _ _ (fun q => by have z := ta0; rw [q.1, ta309] at z; exact absurd z (by decide))).trans c2050
                                    have c2063 : I2056 a0 13 = v2052 := (f2058 _ _ (fun q => by have z := ta0; rw [q.1, ta309] at z; exact absurd z (by decide))).trans c2053
                                    have c2064 : I2056 a0 14 = v2054 := (f2058 _ _ (fun q => by have z := ta0; rw [q.1, ta309] at z; exact absurd z (by decide))).trans c2055
                                    have hO2065 : FrO 14 a1 T I0 I2056 := hO2047.put f2058 ta309 (Or.inl (by decide))
                                    refine q_iincE dX12_readAlp_79 rfl (by decide) (by decide) (by intros; omega) ?_
                                    intro v2066 h2067
                                    refine tr_goto 48 dX12_readAlp_82 (by decide) ?_
                                    refine tr_iload_n dX12_readAlp_48 rfl ?_
                                    refine q_iconst dX12_readAlp_49 (by decide) ?_
                                    intro v2068 h2069
                                    refine q_icmp_ge 85 dX12_readAlp_50 (by decide) (fun h2070 => ?_) (fun h2070 => ?_)
                                    · skip
                                      refine tr_aload_n dX12_readAlp_85 rfl ?_
                                      refine q_getI dX12_readAlp_86 fl12_99 (kR15 hS2057.1 ta0) c2062 ?_
                                      refine q_iconst dX12_readAlp_89 (by decide) ?_
                                      intro v2071 h2072
                                      refine q_icmp_ne 94 dX12_readAlp_90 (by decide) (fun h2073 => ?_) (fun h2073 => ?_)
                                      · skip
                                        exfalso; omega
                                      · skip
                                        have eF := hF.eq
                                        have eP := hP.eq
                                        obtain ⟨v2074, c2075⟩ : ∃ v, I2056 a0 10 = v := ⟨_, rfl⟩
                                        have b2076 := iv15_10 hS2057.1 ta0 c2075
                                        obtain ⟨v2077, c2078⟩ : ∃ v, I2056 a0 11 = v := ⟨_, rfl⟩
                                        obtain ⟨y2079, c2080⟩ : ∃ v, L2038 a0 15 = v := ⟨_, rfl⟩
                                        obtain ⟨v2081, c2082⟩ : ∃ v, I2056 a0 12 = v := ⟨_, rfl⟩
                                        obtain ⟨v2083, c2084⟩ : ∃ v, I2056 a0 8 = v := ⟨_, rfl⟩
                                        have b2085 := iv15_8 hS2057.1 ta0 c2084
                                        exact tr_vret hZ dX12_readAlp_93 rfl (by decide) (by decide) ⟨rfl, rfl, rfl, rfl, rfl, hS2057, (fun dr hd => (Option.some.inj (d2.symm.trans hd)) ▸ hO2065), (Or.inr (⟨(by (try rw [w107]); first | done | with_reducible assumption | omega), (by (try rw [w107]); (try rw [c2062]); first | done | with_reducible assumption | omega), (by (try rw [w107]); (try rw [c2063]); first | done | with_reducible assumption | omega), (by (try rw [w107]); (try rw [c2064]); first | done | with_reducible assumption | omega), trivial⟩)), trivial⟩
                                    · skip
                                      exfalso; omega
                      · skip
                        obtain ⟨v2086, c2087⟩ : ∃ v, I441 a0 9 = v := ⟨_, rfl⟩
                        have b2088 := iv15_9 hS449.1 ta0 c2087
                        rw [c2087] at p474
                        obtain ⟨v2089, c2090⟩ : ∃ v, I441 a0 13 = v := ⟨_, rfl⟩
                        rw [c2090] at p475
                        obtain ⟨v2091, c2092⟩ : ∃ v, I441 a0 14 = v := ⟨_, rfl⟩
                        rw [c2092] at p476
                        replace hF := hF.neg (by omega)
                        replace hP := hP.neg (by omega)
                        replace hF := hF.pos (by omega)
                        replace hP := hP.pos (by omega)
                        refine q_iast dX12_readAlp_78 (kR53 hS449.1 ta309) (ti_in (nR53 hS449.1 ta309) (by omega) (by omega)) hS449 ta309 (iokF rfl) rfl (by rfl) ?_
                        intro I2093 hS2094 e2096 f2095
                        have c2097 : I2093 a1 0 = v29 := (f2095 _ _ (fun q => by have z := ta1; rw [q.1, ta309] at z; exact absurd z (by decide))).trans c450
                        have c2098 : I2093 a1 1 = v33 := (f2095 _ _ (fun q => by have z := ta1; rw [q.1, ta309] at z; exact absurd z (by decide))).trans c451
                        have c2099 : I2093 a0 9 = v2086 := (f2095 _ _ (fun q => by have z := ta0; rw [q.1, ta309] at z; exact absurd z (by decide))).trans c2087
                        have c2100 : I2093 a0 13 = v2089 := (f2095 _ _ (fun q => by have z := ta0; rw [q.1, ta309] at z; exact absurd z (by decide))).trans c2090
                        have c2101 : I2093 a0 14 = v2091 := (f2095 _ _ (fun q => by have z := ta0; rw [q.1, ta309] at z; exact absurd z (by decide))).trans c2092
                        have hO2102 : FrO 14 a1 T I0 I2093 := hO452.put f2095 ta309 (Or.inl (by decide))
                        refine q_iincE dX12_readAlp_79 rfl (by decide) (by decide) (by intros; omega) ?_
                        intro v2103 h2104
                        refine tr_goto 48 dX12_readAlp_82 (by decide) ?_
                        refine tr_iload_n dX12_readAlp_48 rfl ?_
                        refine q_iconst dX12_readAlp_49 (by decide) ?_
                        intro v2105 h2106
                        refine q_icmp_ge 85 dX12_readAlp_50 (by decide) (fun h2107 => ?_) (fun h2107 => ?_)
                        · skip
                          exfalso; omega
                        · skip
                          refine tr_iload_n dX12_readAlp_53 rfl ?_
                          refine q_if_le 63 dX12_readAlp_54 (by decide) (fun h2108 => ?_) (fun h2108 => ?_)
                          · skip
                            exfalso; omega
                          · skip
                            refine tr_aload_n dX12_readAlp_57 rfl ?_
                            refine q_bipush dX12_readAlp_58 (by decide +kernel) ?_
                            intro v2109 h2110
                            refine q_callVv hE (M' := mX12_needsSign) (as := [_]) dX12_readAlp_60 lk12_257 inX12_needsSign seX12_needsSign myX12_needsSign (by decide) ⟨by decide, by decide⟩ rfl (kR15 hS2094.1 ta0) (Nat.le_of_ble_eq_true rfl) rfl rfl (by decide) (by decide) (k_X12_needsSign hS2094.1 ta0) ?_
                            rintro cn' K' N' I2111 R2112 L2113 ⟨rfl, rfl, rfl, rfl, g2114, w2116, -⟩
                            have hS2117 := hS2094.tr g2114 (by decide +kernel) (by decide +kernel)
                            have c2118 : I2111 a1 0 = v29 := (g2114.cell ta1 (by decide +kernel)).trans c2097
                            have c2119 : I2111 a1 1 = v33 := (g2114.cell ta1 (by decide +kernel)).trans c2098
                            have hO2120 : FrO 14 a1 T I0 I2111 := hO2102.st g2114 (by decide +kernel)
                            have ov2121 := w2116.over (by rw [c2099]; omega)
                            obtain ⟨v2122, c2123⟩ : ∃ v, I2111 a0 9 = v := ⟨_, rfl⟩
                            have b2124 := iv15_9 hS2117.1 ta0 c2123
                            obtain ⟨v2125, c2126⟩ : ∃ v, I2111 a0 13 = v := ⟨_, rfl⟩
                            obtain ⟨v2127, c2128⟩ : ∃ v, I2111 a0 14 = v := ⟨_, rfl⟩
                            (try rw [c2123] at ov2121)
                            (try rw [c2126] at ov2121)
                            (try rw [c2128] at ov2121)
                            (try rw [c2099] at ov2121)
                            (try rw [c2100] at ov2121)
                            (try rw [c2101] at ov2121)
                            refine tr_aload_n dX12_readAlp_63 rfl ?_
                            refine tr_getR dX12_readAlp_64 fl12_188 (kR15 hS2117.1 ta0) d2 ?_
                            refine tr_getR dX12_readAlp_67 fl12_260 (kR14 hS2117.1 ta1) d310 ?_
                            refine tr_iload_n dX12_readAlp_70 rfl ?_
                            refine tr_aload_n dX12_readAlp_71 rfl ?_
                            refine q_iconst dX12_readAlp_72 (by decide) ?_
                            intro v2129 h2130
                            refine q_bipush dX12_readAlp_73 (by decide +kernel) ?_
                            intro v2131 h2132
                            refine q_callVi hE (M' := mX12_readWhole) (as := [_, _]) dX12_readAlp_75 lk12_161 inX12_readWhole seX12_readWhole myX12_readWhole (by decide) ⟨by decide, by decide⟩ rfl (kR15 hS2117.1 ta0) (Nat.le_of_ble_eq_true rfl) rfl rfl (by decide) (by decide) (k_X12_readWhole hS2117.1 ta0) ?_
                            rintro v2137 cn' K' N' I2133 R2134 L2135 ⟨rfl, rfl, rfl, rfl, g2136, p2138, w2139, -⟩
                            have hS2140 := hS2117.tr g2136 (by decide +kernel) (by decide +kernel)
                            have c2141 : I2133 a1 0 = v29 := (g2136.cell ta1 (by decide +kernel)).trans c2118
                            have c2142 : I2133 a1 1 = v33 := (g2136.cell ta1 (by decide +kernel)).trans c2119
                            have b2143 : 0 ≤ v2137.toInt ∧ v2137.toInt ≤ 99 := by omega
                            clear p2138
                            have hO2144 : FrO 14 a1 T I0 I2133 := hO2120.st g2136 (by decide +kernel)
                            have ov2145 := w2139.over (by rw [c2123]; omega)
                            obtain ⟨v2146, c2147⟩ : ∃ v, I2133 a0 9 = v := ⟨_, rfl⟩
                            have b2148 := iv15_9 hS2140.1 ta0 c2147
                            obtain ⟨v2149, c2150⟩ : ∃ v, I2133 a0 13 = v := ⟨_, rfl⟩
                            obtain ⟨v2151, c2152⟩ : ∃ v, I2133 a0 14 = v := ⟨_, rfl⟩
                            (try rw [c2147] at ov2145)
                            (try rw [c2150] at ov2145)
                            (try rw [c2152] at ov2145)
                            (try rw [c2123] at ov2145)
                            (try rw [c2126] at ov2145)
                            (try rw [c2128] at ov2145)
                            refine q_iast dX12_readAlp_78 (kR53 hS2140.1 ta309) (ti_in (nR53 hS2140.1 ta309) (by omega) (by omega)) hS2140 ta309 (iokF rfl) rfl (by rfl) ?_
                            intro I2153 hS2154 e2156 f2155
                            have c2157 : I2153 a1 0 = v29 := (f2155 _ _ (fun q => by have z := ta1; rw [q.1, ta309] at z; exact absurd z (by decide))).trans c2141
                            have c2158 : I2153 a1 1 = v33 := (f2155 _ _ (fun q => by have z := ta1; rw [q.1, ta309] at z; exact absurd z (by decide))).trans c2142
                            have c2159 : I2153 a0 9 = v2146 := (f2155 _ _ (fun q => by have z := ta0; rw [q.1, ta309] at z; exact absurd z (by decide))).trans c2147
                            have c2160 : I2153 a0 13 = v2149 := (f2155 _ _ (fun q => by have z := ta0; rw [q.1, ta309] at z; exact absurd z (by decide))).trans c2150
                            have c2161 : I2153 a0 14 = v2151 := (f2155 _ _ (fun q => by have z := ta0; rw [q.1, ta309] at z; exact absurd z (by decide))).trans c2152
                            have hO2162 : FrO 14 a1 T I0 I2153 := hO2144.put f2155 ta309 (Or.inl (by decide))
                            refine q_iincE dX12_readAlp_79 rfl (by decide) (by decide) (by intros; omega) ?_
                            intro v2163 h2164
                            refine tr_goto 48 dX12_readAlp_82 (by decide) ?_
                            refine tr_iload_n dX12_readAlp_48 rfl ?_
                            refine q_iconst dX12_readAlp_49 (by decide) ?_
                            intro v2165 h2166
                            refine q_icmp_ge 85 dX12_readAlp_50 (by decide) (fun h2167 => ?_) (fun h2167 => ?_)
                            · skip
                              exfalso; omega
                            · skip
                              refine tr_iload_n dX12_readAlp_53 rfl ?_
                              refine q_if_le 63 dX12_readAlp_54 (by decide) (fun h2168 => ?_) (fun h2168 => ?_)
                              · skip
                                exfalso; omega
                              · skip
                                refine tr_aload_n dX12_readAlp_57 rfl ?_
                                refine q_bipush dX12_readAlp_58 (by decide +kernel) ?_
                                intro v2169 h2170
                                refine q_callVv hE (M' := mX12_needsSign) (as := [_]) dX12_readAlp_60 lk12_257 inX12_needsSign seX12_needsSign myX12_needsSign (by decide) ⟨by decide, by decide⟩ rfl (kR15 hS2154.1 ta0) (Nat.le_of_ble_eq_true rfl) rfl rfl (by decide) (by decide) (k_X12_needsSign hS2154.1 ta0) ?_
                                rintro cn' K' N' I2171 R2172 L2173 ⟨rfl, rfl, rfl, rfl, g2174, w2176, -⟩
                                have hS2177 := hS2154.tr g2174 (by decide +kernel) (by decide +kernel)
                                have c2178 : I2171 a1 0 = v29 := (g2174.cell ta1 (by decide +kernel)).trans c2157
                                have c2179 : I2171 a1 1 = v33 := (g2174.cell ta1 (by decide +kernel)).trans c2158
                                have hO2180 : FrO 14 a1 T I0 I2171 := hO2162.st g2174 (by decide +kernel)
                                have ov2181 := w2176.over (by rw [c2159]; omega)
                                obtain ⟨v2182, c2183⟩ : ∃ v, I2171 a0 9 = v := ⟨_, rfl⟩
                                have b2184 := iv15_9 hS2177.1 ta0 c2183
                                obtain ⟨v2185, c2186⟩ : ∃ v, I2171 a0 13 = v := ⟨_, rfl⟩
                                obtain ⟨v2187, c2188⟩ : ∃ v, I2171 a0 14 = v := ⟨_, rfl⟩
                                (try rw [c2183] at ov2181)
                                (try rw [c2186] at ov2181)
                                (try rw [c2188] at ov2181)
                                (try rw [c2159] at ov2181)
                                (try rw [c2160] at ov2181)
                                (try rw [c2161] at ov2181)
                                refine tr_aload_n dX12_readAlp_63 rfl ?_
                                refine tr_getR dX12_readAlp_64 fl12_188 (kR15 hS2177.1 ta0) d2 ?_
                                refine tr_getR dX12_readAlp_67 fl12_260 (kR14 hS2177.1 ta1) d310 ?_
                                refine tr_iload_n dX12_readAlp_70 rfl ?_
                                refine tr_aload_n dX12_readAlp_71 rfl ?_
                                refine q_iconst dX12_readAlp_72 (by decide) ?_
                                intro v2189 h2190
                                refine q_bipush dX12_readAlp_73 (by decide +kernel) ?_
                                intro v2191 h2192
                                refine q_callVi hE (M' := mX12_readWhole) (as := [_, _]) dX12_readAlp_75 lk12_161 inX12_readWhole seX12_readWhole myX12_readWhole (by decide) ⟨by decide, by decide⟩ rfl (kR15 hS2177.1 ta0) (Nat.le_of_ble_eq_true rfl) rfl rfl (by decide) (by decide) (k_X12_readWhole hS2177.1 ta0) ?_
                                rintro v2197 cn' K' N' I2193 R2194 L2195 ⟨rfl, rfl, rfl, rfl, g2196, p2198, w2199, -⟩
                                have hS2200 := hS2177.tr g2196 (by decide +kernel) (by decide +kernel)
                                have c2201 : I2193 a1 0 = v29 := (g2196.cell ta1 (by decide +kernel)).trans c2178
                                have c2202 : I2193 a1 1 = v33 := (g2196.cell ta1 (by decide +kernel)).trans c2179
                                have b2203 : 0 ≤ v2197.toInt ∧ v2197.toInt ≤ 99 := by omega
                                clear p2198
                                have hO2204 : FrO 14 a1 T I0 I2193 := hO2180.st g2196 (by decide +kernel)
                                have ov2205 := w2199.over (by rw [c2183]; omega)
                                obtain ⟨v2206, c2207⟩ : ∃ v, I2193 a0 9 = v := ⟨_, rfl⟩
                                have b2208 := iv15_9 hS2200.1 ta0 c2207
                                obtain ⟨v2209, c2210⟩ : ∃ v, I2193 a0 13 = v := ⟨_, rfl⟩
                                obtain ⟨v2211, c2212⟩ : ∃ v, I2193 a0 14 = v := ⟨_, rfl⟩
                                (try rw [c2207] at ov2205)
                                (try rw [c2210] at ov2205)
                                (try rw [c2212] at ov2205)
                                (try rw [c2183] at ov2205)
                                (try rw [c2186] at ov2205)
                                (try rw [c2188] at ov2205)
                                refine q_iast dX12_readAlp_78 (kR53 hS2200.1 ta309) (ti_in (nR53 hS2200.1 ta309) (by omega) (by omega)) hS2200 ta309 (iokF rfl) rfl (by rfl) ?_
                                intro I2213 hS2214 e2216 f2215
                                have c2217 : I2213 a1 0 = v29 := (f2215 _ _ (fun q => by have z := ta1; rw [q.1, ta309] at z; exact absurd z (by decide))).trans c2201
                                have c2218 : I2213 a1 1 = v33 := (f2215 _ _ (fun q => by have z := ta1; rw [q.1, ta309] at z; exact absurd z (by decide))).trans c2202
                                have c2219 : I2213 a0 9 = v2206 := (f2215 _ _ (fun q => by have z := ta0; rw [q.1, ta309] at z; exact absurd z (by decide))).trans c2207
                                have c2220 : I2213 a0 13 = v2209 := (f2215 _ _ (fun q => by have z := ta0; rw [q.1, ta309] at z; exact absurd z (by decide))).trans c2210
                                have c2221 : I2213 a0 14 = v2211 := (f2215 _ _ (fun q => by have z := ta0; rw [q.1, ta309] at z; exact absurd z (by decide))).trans c2212
                                have hO2222 : FrO 14 a1 T I0 I2213 := hO2204.put f2215 ta309 (Or.inl (by decide))
                                refine q_iincE dX12_readAlp_79 rfl (by decide) (by decide) (by intros; omega) ?_
                                intro v2223 h2224
                                refine tr_goto 48 dX12_readAlp_82 (by decide) ?_
                                refine tr_iload_n dX12_readAlp_48 rfl ?_
                                refine q_iconst dX12_readAlp_49 (by decide) ?_
                                intro v2225 h2226
                                refine q_icmp_ge 85 dX12_readAlp_50 (by decide) (fun h2227 => ?_) (fun h2227 => ?_)
                                · skip
                                  exfalso; omega
                                · skip
                                  refine tr_iload_n dX12_readAlp_53 rfl ?_
                                  refine q_if_le 63 dX12_readAlp_54 (by decide) (fun h2228 => ?_) (fun h2228 => ?_)
                                  · skip
                                    exfalso; omega
                                  · skip
                                    refine tr_aload_n dX12_readAlp_57 rfl ?_
                                    refine q_bipush dX12_readAlp_58 (by decide +kernel) ?_
                                    intro v2229 h2230
                                    refine q_callVv hE (M' := mX12_needsSign) (as := [_]) dX12_readAlp_60 lk12_257 inX12_needsSign seX12_needsSign myX12_needsSign (by decide) ⟨by decide, by decide⟩ rfl (kR15 hS2214.1 ta0) (Nat.le_of_ble_eq_true rfl) rfl rfl (by decide) (by decide) (k_X12_needsSign hS2214.1 ta0) ?_
                                    rintro cn' K' N' I2231 R2232 L2233 ⟨rfl, rfl, rfl, rfl, g2234, w2236, -⟩
                                    have hS2237 := hS2214.tr g2234 (by decide +kernel) (by decide +kernel)
                                    have c2238 : I2231 a1 0 = v29 := (g2234.cell ta1 (by decide +kernel)).trans c2217
                                    have c2239 : I2231 a1 1 = v33 := (g2234.cell ta1 (by decide +kernel)).trans c2218
                                    have hO2240 : FrO 14 a1 T I0 I2231 := hO2222.st g2234 (by decide +kernel)
                                    have ov2241 := w2236.over (by rw [c2219]; omega)
                                    obtain ⟨v2242, c2243⟩ : ∃ v, I2231 a0 9 = v := ⟨_, rfl⟩
                                    have b2244 := iv15_9 hS2237.1 ta0 c2243
                                    obtain ⟨v2245, c2246⟩ : ∃ v, I2231 a0 13 = v := ⟨_, rfl⟩
                                    obtain ⟨v2247, c2248⟩ : ∃ v, I2231 a0 14 = v := ⟨_, rfl⟩
                                    (try rw [c2243] at ov2241)
                                    (try rw [c2246] at ov2241)
                                    (try rw [c2248] at ov2241)
                                    (try rw [c2219] at ov2241)
                                    (try rw [c2220] at ov2241)
                                    (try rw [c2221] at ov2241)
                                    refine tr_aload_n dX12_readAlp_63 rfl ?_
                                    refine tr_getR dX12_readAlp_64 fl12_188 (kR15 hS2237.1 ta0) d2 ?_
                                    refine tr_getR dX12_readAlp_67 fl12_260 (kR14 hS2237.1 ta1) d310 ?_
                                    refine tr_iload_n dX12_readAlp_70 rfl ?_
                                    refine tr_aload_n dX12_readAlp_71 rfl ?_
                                    refine q_iconst dX12_readAlp_72 (by decide) ?_
                                    intro v2249 h2250
                                    refine q_bipush dX12_readAlp_73 (by decide +kernel) ?_
                                    intro v2251 h2252
                                    refine q_callVi hE (M' := mX12_readWhole) (as := [_, _]) dX12_readAlp_75 lk12_161 inX12_readWhole seX12_readWhole myX12_readWhole (by decide) ⟨by decide, by decide⟩ rfl (kR15 hS2237.1 ta0) (Nat.le_of_ble_eq_true rfl) rfl rfl (by decide) (by decide) (k_X12_readWhole hS2237.1 ta0) ?_
                                    rintro v2257 cn' K' N' I2253 R2254 L2255 ⟨rfl, rfl, rfl, rfl, g2256, p2258, w2259, -⟩
                                    have hS2260 := hS2237.tr g2256 (by decide +kernel) (by decide +kernel)
                                    have c2261 : I2253 a1 0 = v29 := (g2256.cell ta1 (by decide +kernel)).trans c2238
                                    have c2262 : I2253 a1 1 = v33 := (g2256.cell ta1 (by decide +kernel)).trans c2239
                                    have b2263 : 0 ≤ v2257.toInt ∧ v2257.toInt ≤ 99 := by omega
                                    clear p2258
                                    have hO2264 : FrO 14 a1 T I0 I2253 := hO2240.st g2256 (by decide +kernel)
                                    have ov2265 := w2259.over (by rw [c2243]; omega)
                                    obtain ⟨v2266, c2267⟩ : ∃ v, I2253 a0 9 = v := ⟨_, rfl⟩
                                    have b2268 := iv15_9 hS2260.1 ta0 c2267
                                    obtain ⟨v2269, c2270⟩ : ∃ v, I2253 a0 13 = v := ⟨_, rfl⟩
                                    obtain ⟨v2271, c2272⟩ : ∃ v, I2253 a0 14 = v := ⟨_, rfl⟩
                                    (try rw [c2267] at ov2265)
                                    (try rw [c2270] at ov2265)
                                    (try rw [c2272] at ov2265)
                                    (try rw [c2243] at ov2265)
                                    (try rw [c2246] at ov2265)
                                    (try rw [c2248] at ov2265)
                                    refine q_iast dX12_readAlp_78 (kR53 hS2260.1 ta309) (ti_in (nR53 hS2260.1 ta309) (by omega) (by omega)) hS2260 ta309 (iokF rfl) rfl (by rfl) ?_
                                    intro I2273 hS2274 e2276 f2275
                                    have c2277 : I2273 a1 0 = v29 := (f2275 _ _ (fun q => by have z := ta1; rw [q.1, ta309] at z; exact absurd z (by decide))).trans c2261
                                    have c2278 : I2273 a1 1 = v33 := (f2275 _ _ (fun q => by have z := ta1; rw [q.1, ta309] at z; exact absurd z (by decide))).trans c2262
                                    have c2279 : I2273 a0 9 = v2266 := (f2275 _ _ (fun q => by have z := ta0; rw [q.1, ta309] at z; exact absurd z (by decide))).trans c2267
                                    have c2280 : I2273 a0 13 = v2269 := (f2275 _ _ (fun q => by have z := ta0; rw [q.1, ta309] at z; exact absurd z (by decide))).trans c2270
                                    have c2281 : I2273 a0 14 = v2271 := (f2275 _ _ (fun q => by have z := ta0; rw [q.1, ta309] at z; exact absurd z (by decide))).trans c2272
                                    have hO2282 : FrO 14 a1 T I0 I2273 := hO2264.put f2275 ta309 (Or.inl (by decide))
                                    refine q_iincE dX12_readAlp_79 rfl (by decide) (by decide) (by intros; omega) ?_
                                    intro v2283 h2284
                                    refine tr_goto 48 dX12_readAlp_82 (by decide) ?_
                                    refine tr_iload_n dX12_readAlp_48 rfl ?_
                                    refine q_iconst dX12_readAlp_49 (by decide) ?_
                                    intro v2285 h2286
                                    refine q_icmp_ge 85 dX12_readAlp_50 (by decide) (fun h2287 => ?_) (fun h2287 => ?_)
                                    · skip
                                      refine tr_aload_n dX12_readAlp_85 rfl ?_
                                      refine q_getI dX12_readAlp_86 fl12_99 (kR15 hS2274.1 ta0) c2279 ?_
                                      refine q_iconst dX12_readAlp_89 (by decide) ?_
                                      intro v2288 h2289
                                      refine q_icmp_ne 94 dX12_readAlp_90 (by decide) (fun h2290 => ?_) (fun h2290 => ?_)
                                      · skip
                                        exfalso; omega
                                      · skip
                                        have eF := hF.eq
                                        have eP := hP.eq
                                        obtain ⟨v2291, c2292⟩ : ∃ v, I2273 a0 10 = v := ⟨_, rfl⟩
                                        have b2293 := iv15_10 hS2274.1 ta0 c2292
                                        obtain ⟨v2294, c2295⟩ : ∃ v, I2273 a0 11 = v := ⟨_, rfl⟩
                                        obtain ⟨y2296, c2297⟩ : ∃ v, L2255 a0 15 = v := ⟨_, rfl⟩
                                        obtain ⟨v2298, c2299⟩ : ∃ v, I2273 a0 12 = v := ⟨_, rfl⟩
                                        obtain ⟨v2300, c2301⟩ : ∃ v, I2273 a0 8 = v := ⟨_, rfl⟩
                                        have b2302 := iv15_8 hS2274.1 ta0 c2301
                                        exact tr_vret hZ dX12_readAlp_93 rfl (by decide) (by decide) ⟨rfl, rfl, rfl, rfl, rfl, hS2274, (fun dr hd => (Option.some.inj (d2.symm.trans hd)) ▸ hO2282), (Or.inr (⟨(by (try rw [w107]); first | done | with_reducible assumption | omega), (by (try rw [w107]); (try rw [c2279]); first | done | with_reducible assumption | omega), (by (try rw [w107]); (try rw [c2280]); first | done | with_reducible assumption | omega), (by (try rw [w107]); (try rw [c2281]); first | done | with_reducible assumption | omega), trivial⟩)), trivial⟩
                                    · skip
                                      exfalso; omega
                    · skip
                      obtain ⟨v2303, c2304⟩ : ∃ v, I392 a0 9 = v := ⟨_, rfl⟩
                      have b2305 := iv15_9 hS400.1 ta0 c2304
                      rw [c2304] at p415
                      obtain ⟨v2306, c2307⟩ : ∃ v, I392 a0 13 = v := ⟨_, rfl⟩
                      rw [c2307] at p416
                      obtain ⟨v2308, c2309⟩ : ∃ v, I392 a0 14 = v := ⟨_, rfl⟩
                      rw [c2309] at p417
                      replace hF := hF.pos (by omega)
                      replace hP := hP.pos (by omega)
                      refine tr_aload_n dX12_readAlp_63 rfl ?_
                      refine tr_getR dX12_readAlp_64 fl12_188 (kR15 hS400.1 ta0) d2 ?_
                      refine tr_getR dX12_readAlp_67 fl12_260 (kR14 hS400.1 ta1) d310 ?_
                      refine tr_iload_n dX12_readAlp_70 rfl ?_
                      refine tr_aload_n dX12_readAlp_71 rfl ?_
                      refine q_iconst dX12_readAlp_72 (by decide) ?_
                      intro v2310 h2311
                      refine q_bipush dX12_readAlp_73 (by decide +kernel) ?_
                      intro v2312 h2313
                      refine q_callVi hE (M' := mX12_readWhole) (as := [_, _]) dX12_readAlp_75 lk12_161 inX12_readWhole seX12_readWhole myX12_readWhole (by decide) ⟨by decide, by decide⟩ rfl (kR15 hS400.1 ta0) (Nat.le_of_ble_eq_true rfl) rfl rfl (by decide) (by decide) (k_X12_readWhole hS400.1 ta0) ?_
                      rintro v2318 cn' K' N' I2314 R2315 L2316 ⟨rfl, rfl, rfl, rfl, g2317, p2319, w2320, -⟩
                      have hS2321 := hS400.tr g2317 (by decide +kernel) (by decide +kernel)
                      have c2322 : I2314 a1 0 = v29 := (g2317.cell ta1 (by decide +kernel)).trans c401
                      have c2323 : I2314 a1 1 = v33 := (g2317.cell ta1 (by decide +kernel)).trans c402
                      have b2324 : 0 ≤ v2318.toInt ∧ v2318.toInt ≤ 99 := by omega
                      clear p2319
                      have hO2325 : FrO 14 a1 T I0 I2314 := hO403.st g2317 (by decide +kernel)
                      have ov2326 := w2320.over (by rw [c2304]; omega)
                      obtain ⟨v2327, c2328⟩ : ∃ v, I2314 a0 9 = v := ⟨_, rfl⟩
                      have b2329 := iv15_9 hS2321.1 ta0 c2328
                      obtain ⟨v2330, c2331⟩ : ∃ v, I2314 a0 13 = v := ⟨_, rfl⟩
                      obtain ⟨v2332, c2333⟩ : ∃ v, I2314 a0 14 = v := ⟨_, rfl⟩
                      (try rw [c2328] at ov2326)
                      (try rw [c2331] at ov2326)
                      (try rw [c2333] at ov2326)
                      (try rw [c2304] at ov2326)
                      (try rw [c2307] at ov2326)
                      (try rw [c2309] at ov2326)
                      refine q_iast dX12_readAlp_78 (kR53 hS2321.1 ta309) (ti_in (nR53 hS2321.1 ta309) (by omega) (by omega)) hS2321 ta309 (iokF rfl) rfl (by rfl) ?_
                      intro I2334 hS2335 e2337 f2336
                      have c2338 : I2334 a1 0 = v29 := (f2336 _ _ (fun q => by have z := ta1; rw [q.1, ta309] at z; exact absurd z (by decide))).trans c2322
                      have c2339 : I2334 a1 1 = v33 := (f2336 _ _ (fun q => by have z := ta1; rw [q.1, ta309] at z; exact absurd z (by decide))).trans c2323
                      have c2340 : I2334 a0 9 = v2327 := (f2336 _ _ (fun q => by have z := ta0; rw [q.1, ta309] at z; exact absurd z (by decide))).trans c2328
                      have c2341 : I2334 a0 13 = v2330 := (f2336 _ _ (fun q => by have z := ta0; rw [q.1, ta309] at z; exact absurd z (by decide))).trans c2331
                      have c2342 : I2334 a0 14 = v2332 := (f2336 _ _ (fun q => by have z := ta0; rw [q.1, ta309] at z; exact absurd z (by decide))).trans c2333
                      have hO2343 : FrO 14 a1 T I0 I2334 := hO2325.put f2336 ta309 (Or.inl (by decide))
                      refine q_iincE dX12_readAlp_79 rfl (by decide) (by decide) (by intros; omega) ?_
                      intro v2344 h2345
                      refine tr_goto 48 dX12_readAlp_82 (by decide) ?_
                      refine tr_iload_n dX12_readAlp_48 rfl ?_
                      refine q_iconst dX12_readAlp_49 (by decide) ?_
                      intro v2346 h2347
                      refine q_icmp_ge 85 dX12_readAlp_50 (by decide) (fun h2348 => ?_) (fun h2348 => ?_)
                      · skip
                        exfalso; omega
                      · skip
                        refine tr_iload_n dX12_readAlp_53 rfl ?_
                        refine q_if_le 63 dX12_readAlp_54 (by decide) (fun h2349 => ?_) (fun h2349 => ?_)
                        · skip
                          exfalso; omega
                        · skip
                          refine tr_aload_n dX12_readAlp_57 rfl ?_
                          refine q_bipush dX12_readAlp_58 (by decide +kernel) ?_
                          intro v2350 h2351
                          refine q_callVv hE (M' := mX12_needsSign) (as := [_]) dX12_readAlp_60 lk12_257 inX12_needsSign seX12_needsSign myX12_needsSign (by decide) ⟨by decide, by decide⟩ rfl (kR15 hS2335.1 ta0) (Nat.le_of_ble_eq_true rfl) rfl rfl (by decide) (by decide) (k_X12_needsSign hS2335.1 ta0) ?_
                          rintro cn' K' N' I2352 R2353 L2354 ⟨rfl, rfl, rfl, rfl, g2355, w2357, -⟩
                          have hS2358 := hS2335.tr g2355 (by decide +kernel) (by decide +kernel)
                          have c2359 : I2352 a1 0 = v29 := (g2355.cell ta1 (by decide +kernel)).trans c2338
                          have c2360 : I2352 a1 1 = v33 := (g2355.cell ta1 (by decide +kernel)).trans c2339
                          have hO2361 : FrO 14 a1 T I0 I2352 := hO2343.st g2355 (by decide +kernel)
                          have ov2362 := w2357.over (by rw [c2340]; omega)
                          obtain ⟨v2363, c2364⟩ : ∃ v, I2352 a0 9 = v := ⟨_, rfl⟩
                          have b2365 := iv15_9 hS2358.1 ta0 c2364
                          obtain ⟨v2366, c2367⟩ : ∃ v, I2352 a0 13 = v := ⟨_, rfl⟩
                          obtain ⟨v2368, c2369⟩ : ∃ v, I2352 a0 14 = v := ⟨_, rfl⟩
                          (try rw [c2364] at ov2362)
                          (try rw [c2367] at ov2362)
                          (try rw [c2369] at ov2362)
                          (try rw [c2340] at ov2362)
                          (try rw [c2341] at ov2362)
                          (try rw [c2342] at ov2362)
                          refine tr_aload_n dX12_readAlp_63 rfl ?_
                          refine tr_getR dX12_readAlp_64 fl12_188 (kR15 hS2358.1 ta0) d2 ?_
                          refine tr_getR dX12_readAlp_67 fl12_260 (kR14 hS2358.1 ta1) d310 ?_
                          refine tr_iload_n dX12_readAlp_70 rfl ?_
                          refine tr_aload_n dX12_readAlp_71 rfl ?_
                          refine q_iconst dX12_readAlp_72 (by decide) ?_
                          intro v2370 h2371
                          refine q_bipush dX12_readAlp_73 (by decide +kernel) ?_
                          intro v2372 h2373
                          refine q_callVi hE (M' := mX12_readWhole) (as := [_, _]) dX12_readAlp_75 lk12_161 inX12_readWhole seX12_readWhole myX12_readWhole (by decide) ⟨by decide, by decide⟩ rfl (kR15 hS2358.1 ta0) (Nat.le_of_ble_eq_true rfl) rfl rfl (by decide) (by decide) (k_X12_readWhole hS2358.1 ta0) ?_
                          rintro v2378 cn' K' N' I2374 R2375 L2376 ⟨rfl, rfl, rfl, rfl, g2377, p2379, w2380, -⟩
                          have hS2381 := hS2358.tr g2377 (by decide +kernel) (by decide +kernel)
                          have c2382 : I2374 a1 0 = v29 := (g2377.cell ta1 (by decide +kernel)).trans c2359
                          have c2383 : I2374 a1 1 = v33 := (g2377.cell ta1 (by decide +kernel)).trans c2360
                          have b2384 : 0 ≤ v2378.toInt ∧ v2378.toInt ≤ 99 := by omega
                          clear p2379
                          have hO2385 : FrO 14 a1 T I0 I2374 := hO2361.st g2377 (by decide +kernel)
                          have ov2386 := w2380.over (by rw [c2364]; omega)
                          obtain ⟨v2387, c2388⟩ : ∃ v, I2374 a0 9 = v := ⟨_, rfl⟩
                          have b2389 := iv15_9 hS2381.1 ta0 c2388
                          obtain ⟨v2390, c2391⟩ : ∃ v, I2374 a0 13 = v := ⟨_, rfl⟩
                          obtain ⟨v2392, c2393⟩ : ∃ v, I2374 a0 14 = v := ⟨_, rfl⟩
                          (try rw [c2388] at ov2386)
                          (try rw [c2391] at ov2386)
                          (try rw [c2393] at ov2386)
                          (try rw [c2364] at ov2386)
                          (try rw [c2367] at ov2386)
                          (try rw [c2369] at ov2386)
                          refine q_iast dX12_readAlp_78 (kR53 hS2381.1 ta309) (ti_in (nR53 hS2381.1 ta309) (by omega) (by omega)) hS2381 ta309 (iokF rfl) rfl (by rfl) ?_
                          intro I2394 hS2395 e2397 f2396
                          have c2398 : I2394 a1 0 = v29 := (f2396 _ _ (fun q => by have z := ta1; rw [q.1, ta309] at z; exact absurd z (by decide))).trans c2382
                          have c2399 : I2394 a1 1 = v33 := (f2396 _ _ (fun q => by have z := ta1; rw [q.1, ta309] at z; exact absurd z (by decide))).trans c2383
                          have c2400 : I2394 a0 9 = v2387 := (f2396 _ _ (fun q => by have z := ta0; rw [q.1, ta309] at z; exact absurd z (by decide))).trans c2388
                          have c2401 : I2394 a0 13 = v2390 := (f2396 _ _ (fun q => by have z := ta0; rw [q.1, ta309] at z; exact absurd z (by decide))).trans c2391
                          have c2402 : I2394 a0 14 = v2392 := (f2396 _ _ (fun q => by have z := ta0; rw [q.1, ta309] at z; exact absurd z (by decide))).trans c2393
                          have hO2403 : FrO 14 a1 T I0 I2394 := hO2385.put f2396 ta309 (Or.inl (by decide))
                          refine q_iincE dX12_readAlp_79 rfl (by decide) (by decide) (by intros; omega) ?_
                          intro v2404 h2405
                          refine tr_goto 48 dX12_readAlp_82 (by decide) ?_
                          refine tr_iload_n dX12_readAlp_48 rfl ?_
                          refine q_iconst dX12_readAlp_49 (by decide) ?_
                          intro v2406 h2407
                          refine q_icmp_ge 85 dX12_readAlp_50 (by decide) (fun h2408 => ?_) (fun h2408 => ?_)
                          · skip
                            exfalso; omega
                          · skip
                            refine tr_iload_n dX12_readAlp_53 rfl ?_
                            refine q_if_le 63 dX12_readAlp_54 (by decide) (fun h2409 => ?_) (fun h2409 => ?_)
                            · skip
                              exfalso; omega
                            · skip
                              refine tr_aload_n dX12_readAlp_57 rfl ?_
                              refine q_bipush dX12_readAlp_58 (by decide +kernel) ?_
                              intro v2410 h2411
                              refine q_callVv hE (M' := mX12_needsSign) (as := [_]) dX12_readAlp_60 lk12_257 inX12_needsSign seX12_needsSign myX12_needsSign (by decide) ⟨by decide, by decide⟩ rfl (kR15 hS2395.1 ta0) (Nat.le_of_ble_eq_true rfl) rfl rfl (by decide) (by decide) (k_X12_needsSign hS2395.1 ta0) ?_
                              rintro cn' K' N' I2412 R2413 L2414 ⟨rfl, rfl, rfl, rfl, g2415, w2417, -⟩
                              have hS2418 := hS2395.tr g2415 (by decide +kernel) (by decide +kernel)
                              have c2419 : I2412 a1 0 = v29 := (g2415.cell ta1 (by decide +kernel)).trans c2398
                              have c2420 : I2412 a1 1 = v33 := (g2415.cell ta1 (by decide +kernel)).trans c2399
                              have hO2421 : FrO 14 a1 T I0 I2412 := hO2403.st g2415 (by decide +kernel)
                              have ov2422 := w2417.over (by rw [c2400]; omega)
                              obtain ⟨v2423, c2424⟩ : ∃ v, I2412 a0 9 = v := ⟨_, rfl⟩
                              have b2425 := iv15_9 hS2418.1 ta0 c2424
                              obtain ⟨v2426, c2427⟩ : ∃ v, I2412 a0 13 = v := ⟨_, rfl⟩
                              obtain ⟨v2428, c2429⟩ : ∃ v, I2412 a0 14 = v := ⟨_, rfl⟩
                              (try rw [c2424] at ov2422)
                              (try rw [c2427] at ov2422)
                              (try rw [c2429] at ov2422)
                              (try rw [c2400] at ov2422)
                              (try rw [c2401] at ov2422)
                              (try rw [c2402] at ov2422)
                              refine tr_aload_n dX12_readAlp_63 rfl ?_
                              refine tr_getR dX12_readAlp_64 fl12_188 (kR15 hS2418.1 ta0) d2 ?_
                              refine tr_getR dX12_readAlp_67 fl12_260 (kR14 hS2418.1 ta1) d310 ?_
                              refine tr_iload_n dX12_readAlp_70 rfl ?_
                              refine tr_aload_n dX12_readAlp_71 rfl ?_
                              refine q_iconst dX12_readAlp_72 (by decide) ?_
                              intro v2430 h2431
                              refine q_bipush dX12_readAlp_73 (by decide +kernel) ?_
                              intro v2432 h2433
                              refine q_callVi hE (M' := mX12_readWhole) (as := [_, _]) dX12_readAlp_75 lk12_161 inX12_readWhole seX12_readWhole myX12_readWhole (by decide) ⟨by decide, by decide⟩ rfl (kR15 hS2418.1 ta0) (Nat.le_of_ble_eq_true rfl) rfl rfl (by decide) (by decide) (k_X12_readWhole hS2418.1 ta0) ?_
                              rintro v2438 cn' K' N' I2434 R2435 L2436 ⟨rfl, rfl, rfl, rfl, g2437, p2439, w2440, -⟩
                              have hS2441 := hS2418.tr g2437 (by decide +kernel) (by decide +kernel)
                              have c2442 : I2434 a1 0 = v29 := (g2437.cell ta1 (by decide +kernel)).trans c2419
                              have c2443 : I2434 a1 1 = v33 := (g2437.cell ta1 (by decide +kernel)).trans c2420
                              have b2444 : 0 ≤ v2438.toInt ∧ v2438.toInt ≤ 99 := by omega
                              clear p2439
                              have hO2445 : FrO 14 a1 T I0 I2434 := hO2421.st g2437 (by decide +kernel)
                              have ov2446 := w2440.over (by rw [c2424]; omega)
                              obtain ⟨v2447, c2448⟩ : ∃ v, I2434 a0 9 = v := ⟨_, rfl⟩
                              have b2449 := iv15_9 hS2441.1 ta0 c2448
                              obtain ⟨v2450, c2451⟩ : ∃ v, I2434 a0 13 = v := ⟨_, rfl⟩
                              obtain ⟨v2452, c2453⟩ : ∃ v, I2434 a0 14 = v := ⟨_, rfl⟩
                              (try rw [c2448] at ov2446)
                              (try rw [c2451] at ov2446)
                              (try rw [c2453] at ov2446)
                              (try rw [c2424] at ov2446)
                              (try rw [c2427] at ov2446)
                              (try rw [c2429] at ov2446)
                              refine q_iast dX12_readAlp_78 (kR53 hS2441.1 ta309) (ti_in (nR53 hS2441.1 ta309) (by omega) (by omega)) hS2441 ta309 (iokF rfl) rfl (by rfl) ?_
                              intro I2454 hS2455 e2457 f2456
                              have c2458 : I2454 a1 0 = v29 := (f2456 _ _ (fun q => by have z := ta1; rw [q.1, ta309] at z; exact absurd z (by decide))).trans c2442
                              have c2459 : I2454 a1 1 = v33 := (f2456 _ _ (fun q => by have z := ta1; rw [q.1, ta309] at z; exact absurd z (by decide))).trans c2443
                              have c2460 : I2454 a0 9 = v2447 := (f2456 _ _ (fun q => by have z := ta0; rw [q.1, ta309] at z; exact absurd z (by decide))).trans c2448
                              have c2461 : I2454 a0 13 = v2450 := (f2456 _ _ (fun q => by have z := ta0; rw [q.1, ta309] at z; exact absurd z (by decide))).trans c2451
                              have c2462 : I2454 a0 14 = v2452 := (f2456 _ _ (fun q => by have z := ta0; rw [q.1, ta309] at z; exact absurd z (by decide))).trans c2453
                              have hO2463 : FrO 14 a1 T I0 I2454 := hO2445.put f2456 ta309 (Or.inl (by decide))
                              refine q_iincE dX12_readAlp_79 rfl (by decide) (by decide) (by intros; omega) ?_
                              intro v2464 h2465
                              refine tr_goto 48 dX12_readAlp_82 (by decide) ?_
                              refine tr_iload_n dX12_readAlp_48 rfl ?_
                              refine q_iconst dX12_readAlp_49 (by decide) ?_
                              intro v2466 h2467
                              refine q_icmp_ge 85 dX12_readAlp_50 (by decide) (fun h2468 => ?_) (fun h2468 => ?_)
                              · skip
                                exfalso; omega
                              · skip
                                refine tr_iload_n dX12_readAlp_53 rfl ?_
                                refine q_if_le 63 dX12_readAlp_54 (by decide) (fun h2469 => ?_) (fun h2469 => ?_)
                                · skip
                                  exfalso; omega
                                · skip
                                  refine tr_aload_n dX12_readAlp_57 rfl ?_
                                  refine q_bipush dX12_readAlp_58 (by decide +kernel) ?_
                                  intro v2470 h2471
                                  refine q_callVv hE (M' := mX12_needsSign) (as := [_]) dX12_readAlp_60 lk12_257 inX12_needsSign seX12_needsSign myX12_needsSign (by decide) ⟨by decide, by decide⟩ rfl (kR15 hS2455.1 ta0) (Nat.le_of_ble_eq_true rfl) rfl rfl (by decide) (by decide) (k_X12_needsSign hS2455.1 ta0) ?_
                                  rintro cn' K' N' I2472 R2473 L2474 ⟨rfl, rfl, rfl, rfl, g2475, w2477, -⟩
                                  have hS2478 := hS2455.tr g2475 (by decide +kernel) (by decide +kernel)
                                  have c2479 : I2472 a1 0 = v29 := (g2475.cell ta1 (by decide +kernel)).trans c2458
                                  have c2480 : I2472 a1 1 = v33 := (g2475.cell ta1 (by decide +kernel)).trans c2459
                                  have hO2481 : FrO 14 a1 T I0 I2472 := hO2463.st g2475 (by decide +kernel)
                                  have ov2482 := w2477.over (by rw [c2460]; omega)
                                  obtain ⟨v2483, c2484⟩ : ∃ v, I2472 a0 9 = v := ⟨_, rfl⟩
                                  have b2485 := iv15_9 hS2478.1 ta0 c2484
                                  obtain ⟨v2486, c2487⟩ : ∃ v, I2472 a0 13 = v := ⟨_, rfl⟩
                                  obtain ⟨v2488, c2489⟩ : ∃ v, I2472 a0 14 = v := ⟨_, rfl⟩
                                  (try rw [c2484] at ov2482)
                                  (try rw [c2487] at ov2482)
                                  (try rw [c2489] at ov2482)
                                  (try rw [c2460] at ov2482)
                                  (try rw [c2461] at ov2482)
                                  (try rw [c2462] at ov2482)
                                  refine tr_aload_n dX12_readAlp_63 rfl ?_
                                  refine tr_getR dX12_readAlp_64 fl12_188 (kR15 hS2478.1 ta0) d2 ?_
                                  refine tr_getR dX12_readAlp_67 fl12_260 (kR14 hS2478.1 ta1) d310 ?_
                                  refine tr_iload_n dX12_readAlp_70 rfl ?_
                                  refine tr_aload_n dX12_readAlp_71 rfl ?_
                                  refine q_iconst dX12_readAlp_72 (by decide) ?_
                                  intro v2490 h2491
                                  refine q_bipush dX12_readAlp_73 (by decide +kernel) ?_
                                  intro v2492 h2493
                                  refine q_callVi hE (M' := mX12_readWhole) (as := [_, _]) dX12_readAlp_75 lk12_161 inX12_readWhole seX12_readWhole myX12_readWhole (by decide) ⟨by decide, by decide⟩ rfl (kR15 hS2478.1 ta0) (Nat.le_of_ble_eq_true rfl) rfl rfl (by decide) (by decide) (k_X12_readWhole hS2478.1 ta0) ?_
                                  rintro v2498 cn' K' N' I2494 R2495 L2496 ⟨rfl, rfl, rfl, rfl, g2497, p2499, w2500, -⟩
                                  have hS2501 := hS2478.tr g2497 (by decide +kernel) (by decide +kernel)
                                  have c2502 : I2494 a1 0 = v29 := (g2497.cell ta1 (by decide +kernel)).trans c2479
                                  have c2503 : I2494 a1 1 = v33 := (g2497.cell ta1 (by decide +kernel)).trans c2480
                                  have b2504 : 0 ≤ v2498.toInt ∧ v2498.toInt ≤ 99 := by omega
                                  clear p2499
                                  have hO2505 : FrO 14 a1 T I0 I2494 := hO2481.st g2497 (by decide +kernel)
                                  have ov2506 := w2500.over (by rw [c2484]; omega)
                                  obtain ⟨v2507, c2508⟩ : ∃ v, I2494 a0 9 = v := ⟨_, rfl⟩
                                  have b2509 := iv15_9 hS2501.1 ta0 c2508
                                  obtain ⟨v2510, c2511⟩ : ∃ v, I2494 a0 13 = v := ⟨_, rfl⟩
                                  obtain ⟨v2512, c2513⟩ : ∃ v, I2494 a0 14 = v := ⟨_, rfl⟩
                                  (try rw [c2508] at ov2506)
                                  (try rw [c2511] at ov2506)
                                  (try rw [c2513] at ov2506)
                                  (try rw [c2484] at ov2506)
                                  (try rw [c2487] at ov2506)
                                  (try rw [c2489] at ov2506)
                                  refine q_iast dX12_readAlp_78 (kR53 hS2501.1 ta309) (ti_in (nR53 hS2501.1 ta309) (by omega) (by omega)) hS2501 ta309 (iokF rfl) rfl (by rfl) ?_
                                  intro I2514 hS2515 e2517 f2516
                                  have c2518 : I2514 a1 0 = v29 := (f2516 _ _ (fun q => by have z := ta1; rw [q.1, ta309] at z; exact absurd z (by decide))).trans c2502
                                  have c2519 : I2514 a1 1 = v33 := (f2516 _ _ (fun q => by have z := ta1; rw [q.1, ta309] at z; exact absurd z (by decide))).trans c2503
                                  have c2520 : I2514 a0 9 = v2507 := (f2516 _ _ (fun q => by have z := ta0; rw [q.1, ta309] at z; exact absurd z (by decide))).trans c2508
                                  have c2521 : I2514 a0 13 = v2510 := (f2516 _ _ (fun q => by have z := ta0; rw [q.1, ta309] at z; exact absurd z (by decide))).trans c2511
                                  have c2522 : I2514 a0 14 = v2512 := (f2516 _ _ (fun q => by have z := ta0; rw [q.1, ta309] at z; exact absurd z (by decide))).trans c2513
                                  have hO2523 : FrO 14 a1 T I0 I2514 := hO2505.put f2516 ta309 (Or.inl (by decide))
                                  refine q_iincE dX12_readAlp_79 rfl (by decide) (by decide) (by intros; omega) ?_
                                  intro v2524 h2525
                                  refine tr_goto 48 dX12_readAlp_82 (by decide) ?_
                                  refine tr_iload_n dX12_readAlp_48 rfl ?_
                                  refine q_iconst dX12_readAlp_49 (by decide) ?_
                                  intro v2526 h2527
                                  refine q_icmp_ge 85 dX12_readAlp_50 (by decide) (fun h2528 => ?_) (fun h2528 => ?_)
                                  · skip
                                    refine tr_aload_n dX12_readAlp_85 rfl ?_
                                    refine q_getI dX12_readAlp_86 fl12_99 (kR15 hS2515.1 ta0) c2520 ?_
                                    refine q_iconst dX12_readAlp_89 (by decide) ?_
                                    intro v2529 h2530
                                    refine q_icmp_ne 94 dX12_readAlp_90 (by decide) (fun h2531 => ?_) (fun h2531 => ?_)
                                    · skip
                                      exfalso; omega
                                    · skip
                                      have eF := hF.eq
                                      have eP := hP.eq
                                      obtain ⟨v2532, c2533⟩ : ∃ v, I2514 a0 10 = v := ⟨_, rfl⟩
                                      have b2534 := iv15_10 hS2515.1 ta0 c2533
                                      obtain ⟨v2535, c2536⟩ : ∃ v, I2514 a0 11 = v := ⟨_, rfl⟩
                                      obtain ⟨y2537, c2538⟩ : ∃ v, L2496 a0 15 = v := ⟨_, rfl⟩
                                      obtain ⟨v2539, c2540⟩ : ∃ v, I2514 a0 12 = v := ⟨_, rfl⟩
                                      obtain ⟨v2541, c2542⟩ : ∃ v, I2514 a0 8 = v := ⟨_, rfl⟩
                                      have b2543 := iv15_8 hS2515.1 ta0 c2542
                                      exact tr_vret hZ dX12_readAlp_93 rfl (by decide) (by decide) ⟨rfl, rfl, rfl, rfl, rfl, hS2515, (fun dr hd => (Option.some.inj (d2.symm.trans hd)) ▸ hO2523), (Or.inr (⟨(by (try rw [w107]); first | done | with_reducible assumption | omega), (by (try rw [w107]); (try rw [c2520]); first | done | with_reducible assumption | omega), (by (try rw [w107]); (try rw [c2521]); first | done | with_reducible assumption | omega), (by (try rw [w107]); (try rw [c2522]); first | done | with_reducible assumption | omega), trivial⟩)), trivial⟩
                                  · skip
                                    exfalso; omega
              · skip
                obtain ⟨v2544, c2545⟩ : ∃ v, I315 a0 9 = v := ⟨_, rfl⟩
                have b2546 := iv15_9 hS323.1 ta0 c2545
                rw [c2545] at p342
                obtain ⟨v2547, c2548⟩ : ∃ v, I315 a0 13 = v := ⟨_, rfl⟩
                rw [c2548] at p343
                obtain ⟨v2549, c2550⟩ : ∃ v, I315 a0 14 = v := ⟨_, rfl⟩
                rw [c2550] at p344
                replace hF := hF.pos (by omega)
                replace hP := hP.pos (by omega)
                refine q_iast dX12_readAlp_78 (kR53 hS323.1 ta309) (ti_in (nR53 hS323.1 ta309) (by omega) (by omega)) hS323 ta309 (iokF rfl) rfl (by rfl) ?_
                intro I2551 hS2552 e2554 f2553
                have c2555 : I2551 a1 0 = v29 := (f2553 _ _ (fun q => by have z := ta1; rw [q.1, ta309] at z; exact absurd z (by decide))).trans c324
                have c2556 : I2551 a1 1 = v33 := (f2553 _ _ (fun q => by have z := ta1; rw [q.1, ta309] at z; exact absurd z (by decide))).trans c325
                have c2557 : I2551 a0 9 = v2544 := (f2553 _ _ (fun q => by have z := ta0; rw [q.1, ta309] at z; exact absurd z (by decide))).trans c2545
                have c2558 : I2551 a0 13 = v2547 := (f2553 _ _ (fun q => by have z := ta0; rw [q.1, ta309] at z; exact absurd z (by decide))).trans c2548
                have c2559 : I2551 a0 14 = v2549 := (f2553 _ _ (fun q => by have z := ta0; rw [q.1, ta309] at z; exact absurd z (by decide))).trans c2550
                have hO2560 : FrO 14 a1 T I0 I2551 := hO326.put f2553 ta309 (Or.inl (by decide))
                refine q_iincE dX12_readAlp_79 rfl (by decide) (by decide) (by intros; omega) ?_
                intro v2561 h2562
                refine tr_goto 48 dX12_readAlp_82 (by decide) ?_
                refine tr_iload_n dX12_readAlp_48 rfl ?_
                refine q_iconst dX12_readAlp_49 (by decide) ?_
                intro v2563 h2564
                refine q_icmp_ge 85 dX12_readAlp_50 (by decide) (fun h2565 => ?_) (fun h2565 => ?_)
                · skip
                  exfalso; omega
                · skip
                  refine tr_iload_n dX12_readAlp_53 rfl ?_
                  refine q_if_le 63 dX12_readAlp_54 (by decide) (fun h2566 => ?_) (fun h2566 => ?_)
                  · skip
                    exfalso; omega
                  · skip
                    refine tr_aload_n dX12_readAlp_57 rfl ?_
                    refine q_bipush dX12_readAlp_58 (by decide +kernel) ?_
                    intro v2567 h2568
                    refine q_callVv hE (M' := mX12_needsSign) (as := [_]) dX12_readAlp_60 lk12_257 inX12_needsSign seX12_needsSign myX12_needsSign (by decide) ⟨by decide, by decide⟩ rfl (kR15 hS2552.1 ta0) (Nat.le_of_ble_eq_true rfl) rfl rfl (by decide) (by decide) (k_X12_needsSign hS2552.1 ta0) ?_
                    rintro cn' K' N' I2569 R2570 L2571 ⟨rfl, rfl, rfl, rfl, g2572, w2574, -⟩
                    have hS2575 := hS2552.tr g2572 (by decide +kernel) (by decide +kernel)
                    have c2576 : I2569 a1 0 = v29 := (g2572.cell ta1 (by decide +kernel)).trans c2555
                    have c2577 : I2569 a1 1 = v33 := (g2572.cell ta1 (by decide +kernel)).trans c2556
                    have hO2578 : FrO 14 a1 T I0 I2569 := hO2560.st g2572 (by decide +kernel)
                    have ov2579 := w2574.over (by rw [c2557]; omega)
                    obtain ⟨v2580, c2581⟩ : ∃ v, I2569 a0 9 = v := ⟨_, rfl⟩
                    have b2582 := iv15_9 hS2575.1 ta0 c2581
                    obtain ⟨v2583, c2584⟩ : ∃ v, I2569 a0 13 = v := ⟨_, rfl⟩
                    obtain ⟨v2585, c2586⟩ : ∃ v, I2569 a0 14 = v := ⟨_, rfl⟩
                    (try rw [c2581] at ov2579)
                    (try rw [c2584] at ov2579)
                    (try rw [c2586] at ov2579)
                    (try rw [c2557] at ov2579)
                    (try rw [c2558] at ov2579)
                    (try rw [c2559] at ov2579)
                    refine tr_aload_n dX12_readAlp_63 rfl ?_
                    refine tr_getR dX12_readAlp_64 fl12_188 (kR15 hS2575.1 ta0) d2 ?_
                    refine tr_getR dX12_readAlp_67 fl12_260 (kR14 hS2575.1 ta1) d310 ?_
                    refine tr_iload_n dX12_readAlp_70 rfl ?_
                    refine tr_aload_n dX12_readAlp_71 rfl ?_
                    refine q_iconst dX12_readAlp_72 (by decide) ?_
                    intro v2587 h2588
                    refine q_bipush dX12_readAlp_73 (by decide +kernel) ?_
                    intro v2589 h2590
                    refine q_callVi hE (M' := mX12_readWhole) (as := [_, _]) dX12_readAlp_75 lk12_161 inX12_readWhole seX12_readWhole myX12_readWhole (by decide) ⟨by decide, by decide⟩ rfl (kR15 hS2575.1 ta0) (Nat.le_of_ble_eq_true rfl) rfl rfl (by decide) (by decide) (k_X12_readWhole hS2575.1 ta0) ?_
                    rintro v2595 cn' K' N' I2591 R2592 L2593 ⟨rfl, rfl, rfl, rfl, g2594, p2596, w2597, -⟩
                    have hS2598 := hS2575.tr g2594 (by decide +kernel) (by decide +kernel)
                    have c2599 : I2591 a1 0 = v29 := (g2594.cell ta1 (by decide +kernel)).trans c2576
                    have c2600 : I2591 a1 1 = v33 := (g2594.cell ta1 (by decide +kernel)).trans c2577
                    have b2601 : 0 ≤ v2595.toInt ∧ v2595.toInt ≤ 99 := by omega
                    clear p2596
                    have hO2602 : FrO 14 a1 T I0 I2591 := hO2578.st g2594 (by decide +kernel)
                    have ov2603 := w2597.over (by rw [c2581]; omega)
                    obtain ⟨v2604, c2605⟩ : ∃ v, I2591 a0 9 = v := ⟨_, rfl⟩
                    have b2606 := iv15_9 hS2598.1 ta0 c2605
                    obtain ⟨v2607, c2608⟩ : ∃ v, I2591 a0 13 = v := ⟨_, rfl⟩
                    obtain ⟨v2609, c2610⟩ : ∃ v, I2591 a0 14 = v := ⟨_, rfl⟩
                    (try rw [c2605] at ov2603)
                    (try rw [c2608] at ov2603)
                    (try rw [c2610] at ov2603)
                    (try rw [c2581] at ov2603)
                    (try rw [c2584] at ov2603)
                    (try rw [c2586] at ov2603)
                    refine q_iast dX12_readAlp_78 (kR53 hS2598.1 ta309) (ti_in (nR53 hS2598.1 ta309) (by omega) (by omega)) hS2598 ta309 (iokF rfl) rfl (by rfl) ?_
                    intro I2611 hS2612 e2614 f2613
                    have c2615 : I2611 a1 0 = v29 := (f2613 _ _ (fun q => by have z := ta1; rw [q.1, ta309] at z; exact absurd z (by decide))).trans c2599
                    have c2616 : I2611 a1 1 = v33 := (f2613 _ _ (fun q => by have z := ta1; rw [q.1, ta309] at z; exact absurd z (by decide))).trans c2600
                    have c2617 : I2611 a0 9 = v2604 := (f2613 _ _ (fun q => by have z := ta0; rw [q.1, ta309] at z; exact absurd z (by decide))).trans c2605
                    have c2618 : I2611 a0 13 = v2607 := (f2613 _ _ (fun q => by have z := ta0; rw [q.1, ta309] at z; exact absurd z (by decide))).trans c2608
                    have c2619 : I2611 a0 14 = v2609 := (f2613 _ _ (fun q => by have z := ta0; rw [q.1, ta309] at z; exact absurd z (by decide))).trans c2610
                    have hO2620 : FrO 14 a1 T I0 I2611 := hO2602.put f2613 ta309 (Or.inl (by decide))
                    refine q_iincE dX12_readAlp_79 rfl (by decide) (by decide) (by intros; omega) ?_
                    intro v2621 h2622
                    refine tr_goto 48 dX12_readAlp_82 (by decide) ?_
                    refine tr_iload_n dX12_readAlp_48 rfl ?_
                    refine q_iconst dX12_readAlp_49 (by decide) ?_
                    intro v2623 h2624
                    refine q_icmp_ge 85 dX12_readAlp_50 (by decide) (fun h2625 => ?_) (fun h2625 => ?_)
                    · skip
                      exfalso; omega
                    · skip
                      refine tr_iload_n dX12_readAlp_53 rfl ?_
                      refine q_if_le 63 dX12_readAlp_54 (by decide) (fun h2626 => ?_) (fun h2626 => ?_)
                      · skip
                        exfalso; omega
                      · skip
                        refine tr_aload_n dX12_readAlp_57 rfl ?_
                        refine q_bipush dX12_readAlp_58 (by decide +kernel) ?_
                        intro v2627 h2628
                        refine q_callVv hE (M' := mX12_needsSign) (as := [_]) dX12_readAlp_60 lk12_257 inX12_needsSign seX12_needsSign myX12_needsSign (by decide) ⟨by decide, by decide⟩ rfl (kR15 hS2612.1 ta0) (Nat.le_of_ble_eq_true rfl) rfl rfl (by decide) (by decide) (k_X12_needsSign hS2612.1 ta0) ?_
                        rintro cn' K' N' I2629 R2630 L2631 ⟨rfl, rfl, rfl, rfl, g2632, w2634, -⟩
                        have hS2635 := hS2612.tr g2632 (by decide +kernel) (by decide +kernel)
                        have c2636 : I2629 a1 0 = v29 := (g2632.cell ta1 (by decide +kernel)).trans c2615
                        have c2637 : I2629 a1 1 = v33 := (g2632.cell ta1 (by decide +kernel)).trans c2616
                        have hO2638 : FrO 14 a1 T I0 I2629 := hO2620.st g2632 (by decide +kernel)
                        have ov2639 := w2634.over (by rw [c2617]; omega)
                        obtain ⟨v2640, c2641⟩ : ∃ v, I2629 a0 9 = v := ⟨_, rfl⟩
                        have b2642 := iv15_9 hS2635.1 ta0 c2641
                        obtain ⟨v2643, c2644⟩ : ∃ v, I2629 a0 13 = v := ⟨_, rfl⟩
                        obtain ⟨v2645, c2646⟩ : ∃ v, I2629 a0 14 = v := ⟨_, rfl⟩
                        (try rw [c2641] at ov2639)
                        (try rw [c2644] at ov2639)
                        (try rw [c2646] at ov2639)
                        (try rw [c2617] at ov2639)
                        (try rw [c2618] at ov2639)
                        (try rw [c2619] at ov2639)
                        refine tr_aload_n dX12_readAlp_63 rfl ?_
                        refine tr_getR dX12_readAlp_64 fl12_188 (kR15 hS2635.1 ta0) d2 ?_
                        refine tr_getR dX12_readAlp_67 fl12_260 (kR14 hS2635.1 ta1) d310 ?_
                        refine tr_iload_n dX12_readAlp_70 rfl ?_
                        refine tr_aload_n dX12_readAlp_71 rfl ?_
                        refine q_iconst dX12_readAlp_72 (by decide) ?_
                        intro v2647 h2648
                        refine q_bipush dX12_readAlp_73 (by decide +kernel) ?_
                        intro v2649 h2650
                        refine q_callVi hE (M' := mX12_readWhole) (as := [_, _]) dX12_readAlp_75 lk12_161 inX12_readWhole seX12_readWhole myX12_readWhole (by decide) ⟨by decide, by decide⟩ rfl (kR15 hS2635.1 ta0) (Nat.le_of_ble_eq_true rfl) rfl rfl (by decide) (by decide) (k_X12_readWhole hS2635.1 ta0) ?_
                        rintro v2655 cn' K' N' I2651 R2652 L2653 ⟨rfl, rfl, rfl, rfl, g2654, p2656, w2657, -⟩
                        have hS2658 := hS2635.tr g2654 (by decide +kernel) (by decide +kernel)
                        have c2659 : I2651 a1 0 = v29 := (g2654.cell ta1 (by decide +kernel)).trans c2636
                        have c2660 : I2651 a1 1 = v33 := (g2654.cell ta1 (by decide +kernel)).trans c2637
                        have b2661 : 0 ≤ v2655.toInt ∧ v2655.toInt ≤ 99 := by omega
                        clear p2656
                        have hO2662 : FrO 14 a1 T I0 I2651 := hO2638.st g2654 (by decide +kernel)
                        have ov2663 := w2657.over (by rw [c2641]; omega)
                        obtain ⟨v2664, c2665⟩ : ∃ v, I2651 a0 9 = v := ⟨_, rfl⟩
                        have b2666 := iv15_9 hS2658.1 ta0 c2665
                        obtain ⟨v2667, c2668⟩ : ∃ v, I2651 a0 13 = v := ⟨_, rfl⟩
                        obtain ⟨v2669, c2670⟩ : ∃ v, I2651 a0 14 = v := ⟨_, rfl⟩
                        (try rw [c2665] at ov2663)
                        (try rw [c2668] at ov2663)
                        (try rw [c2670] at ov2663)
                        (try rw [c2641] at ov2663)
                        (try rw [c2644] at ov2663)
                        (try rw [c2646] at ov2663)
                        refine q_iast dX12_readAlp_78 (kR53 hS2658.1 ta309) (ti_in (nR53 hS2658.1 ta309) (by omega) (by omega)) hS2658 ta309 (iokF rfl) rfl (by rfl) ?_
                        intro I2671 hS2672 e2674 f2673
                        have c2675 : I2671 a1 0 = v29 := (f2673 _ _ (fun q => by have z := ta1; rw [q.1, ta309] at z; exact absurd z (by decide))).trans c2659
                        have c2676 : I2671 a1 1 = v33 := (f2673 _ _ (fun q => by have z := ta1; rw [q.1, ta309] at z; exact absurd z (by decide))).trans c2660
                        have c2677 : I2671 a0 9 = v2664 := (f2673 _ _ (fun q => by have z := ta0; rw [q.1, ta309] at z; exact absurd z (by decide))).trans c2665
                        have c2678 : I2671 a0 13 = v2667 := (f2673 _ _ (fun q => by have z := ta0; rw [q.1, ta309] at z; exact absurd z (by decide))).trans c2668
                        have c2679 : I2671 a0 14 = v2669 := (f2673 _ _ (fun q => by have z := ta0; rw [q.1, ta309] at z; exact absurd z (by decide))).trans c2670
                        have hO2680 : FrO 14 a1 T I0 I2671 := hO2662.put f2673 ta309 (Or.inl (by decide))
                        refine q_iincE dX12_readAlp_79 rfl (by decide) (by decide) (by intros; omega) ?_
                        intro v2681 h2682
                        refine tr_goto 48 dX12_readAlp_82 (by decide) ?_
                        refine tr_iload_n dX12_readAlp_48 rfl ?_
                        refine q_iconst dX12_readAlp_49 (by decide) ?_
                        intro v2683 h2684
                        refine q_icmp_ge 85 dX12_readAlp_50 (by decide) (fun h2685 => ?_) (fun h2685 => ?_)
                        · skip
                          exfalso; omega
                        · skip
                          refine tr_iload_n dX12_readAlp_53 rfl ?_
                          refine q_if_le 63 dX12_readAlp_54 (by decide) (fun h2686 => ?_) (fun h2686 => ?_)
                          · skip
                            exfalso; omega
                          · skip
                            refine tr_aload_n dX12_readAlp_57 rfl ?_
                            refine q_bipush dX12_readAlp_58 (by decide +kernel) ?_
                            intro v2687 h2688
                            refine q_callVv hE (M' := mX12_needsSign) (as := [_]) dX12_readAlp_60 lk12_257 inX12_needsSign seX12_needsSign myX12_needsSign (by decide) ⟨by decide, by decide⟩ rfl (kR15 hS2672.1 ta0) (Nat.le_of_ble_eq_true rfl) rfl rfl (by decide) (by decide) (k_X12_needsSign hS2672.1 ta0) ?_
                            rintro cn' K' N' I2689 R2690 L2691 ⟨rfl, rfl, rfl, rfl, g2692, w2694, -⟩
                            have hS2695 := hS2672.tr g2692 (by decide +kernel) (by decide +kernel)
                            have c2696 : I2689 a1 0 = v29 := (g2692.cell ta1 (by decide +kernel)).trans c2675
                            have c2697 : I2689 a1 1 = v33 := (g2692.cell ta1 (by decide +kernel)).trans c2676
                            have hO2698 : FrO 14 a1 T I0 I2689 := hO2680.st g2692 (by decide +kernel)
                            have ov2699 := w2694.over (by rw [c2677]; omega)
                            obtain ⟨v2700, c2701⟩ : ∃ v, I2689 a0 9 = v := ⟨_, rfl⟩
                            have b2702 := iv15_9 hS2695.1 ta0 c2701
                            obtain ⟨v2703, c2704⟩ : ∃ v, I2689 a0 13 = v := ⟨_, rfl⟩
                            obtain ⟨v2705, c2706⟩ : ∃ v, I2689 a0 14 = v := ⟨_, rfl⟩
                            (try rw [c2701] at ov2699)
                            (try rw [c2704] at ov2699)
                            (try rw [c2706] at ov2699)
                            (try rw [c2677] at ov2699)
                            (try rw [c2678] at ov2699)
                            (try rw [c2679] at ov2699)
                            refine tr_aload_n dX12_readAlp_63 rfl ?_
                            refine tr_getR dX12_readAlp_64 fl12_188 (kR15 hS2695.1 ta0) d2 ?_
                            refine tr_getR dX12_readAlp_67 fl12_260 (kR14 hS2695.1 ta1) d310 ?_
                            refine tr_iload_n dX12_readAlp_70 rfl ?_
                            refine tr_aload_n dX12_readAlp_71 rfl ?_
                            refine q_iconst dX12_readAlp_72 (by decide) ?_
                            intro v2707 h2708
                            refine q_bipush dX12_readAlp_73 (by decide +kernel) ?_
                            intro v2709 h2710
                            refine q_callVi hE (M' := mX12_readWhole) (as := [_, _]) dX12_readAlp_75 lk12_161 inX12_readWhole seX12_readWhole myX12_readWhole (by decide) ⟨by decide, by decide⟩ rfl (kR15 hS2695.1 ta0) (Nat.le_of_ble_eq_true rfl) rfl rfl (by decide) (by decide) (k_X12_readWhole hS2695.1 ta0) ?_
                            rintro v2715 cn' K' N' I2711 R2712 L2713 ⟨rfl, rfl, rfl, rfl, g2714, p2716, w2717, -⟩
                            have hS2718 := hS2695.tr g2714 (by decide +kernel) (by decide +kernel)
                            have c2719 : I2711 a1 0 = v29 := (g2714.cell ta1 (by decide +kernel)).trans c2696
                            have c2720 : I2711 a1 1 = v33 := (g2714.cell ta1 (by decide +kernel)).trans c2697
                            have b2721 : 0 ≤ v2715.toInt ∧ v2715.toInt ≤ 99 := by omega
                            clear p2716
                            have hO2722 : FrO 14 a1 T I0 I2711 := hO2698.st g2714 (by decide +kernel)
                            have ov2723 := w2717.over (by rw [c2701]; omega)
                            obtain ⟨v2724, c2725⟩ : ∃ v, I2711 a0 9 = v := ⟨_, rfl⟩
                            have b2726 := iv15_9 hS2718.1 ta0 c2725
                            obtain ⟨v2727, c2728⟩ : ∃ v, I2711 a0 13 = v := ⟨_, rfl⟩
                            obtain ⟨v2729, c2730⟩ : ∃ v, I2711 a0 14 = v := ⟨_, rfl⟩
                            (try rw [c2725] at ov2723)
                            (try rw [c2728] at ov2723)
                            (try rw [c2730] at ov2723)
                            (try rw [c2701] at ov2723)
                            (try rw [c2704] at ov2723)
                            (try rw [c2706] at ov2723)
                            refine q_iast dX12_readAlp_78 (kR53 hS2718.1 ta309) (ti_in (nR53 hS2718.1 ta309) (by omega) (by omega)) hS2718 ta309 (iokF rfl) rfl (by rfl) ?_
                            intro I2731 hS2732 e2734 f2733
                            have c2735 : I2731 a1 0 = v29 := (f2733 _ _ (fun q => by have z := ta1; rw [q.1, ta309] at z; exact absurd z (by decide))).trans c2719
                            have c2736 : I2731 a1 1 = v33 := (f2733 _ _ (fun q => by have z := ta1; rw [q.1, ta309] at z; exact absurd z (by decide))).trans c2720
                            have c2737 : I2731 a0 9 = v2724 := (f2733 _ _ (fun q => by have z := ta0; rw [q.1, ta309] at z; exact absurd z (by decide))).trans c2725
                            have c2738 : I2731 a0 13 = v2727 := (f2733 _ _ (fun q => by have z := ta0; rw [q.1, ta309] at z; exact absurd z (by decide))).trans c2728
                            have c2739 : I2731 a0 14 = v2729 := (f2733 _ _ (fun q => by have z := ta0; rw [q.1, ta309] at z; exact absurd z (by decide))).trans c2730
                            have hO2740 : FrO 14 a1 T I0 I2731 := hO2722.put f2733 ta309 (Or.inl (by decide))
                            refine q_iincE dX12_readAlp_79 rfl (by decide) (by decide) (by intros; omega) ?_
                            intro v2741 h2742
                            refine tr_goto 48 dX12_readAlp_82 (by decide) ?_
                            refine tr_iload_n dX12_readAlp_48 rfl ?_
                            refine q_iconst dX12_readAlp_49 (by decide) ?_
                            intro v2743 h2744
                            refine q_icmp_ge 85 dX12_readAlp_50 (by decide) (fun h2745 => ?_) (fun h2745 => ?_)
                            · skip
                              exfalso; omega
                            · skip
                              refine tr_iload_n dX12_readAlp_53 rfl ?_
                              refine q_if_le 63 dX12_readAlp_54 (by decide) (fun h2746 => ?_) (fun h2746 => ?_)
                              · skip
                                exfalso; omega
                              · skip
                                refine tr_aload_n dX12_readAlp_57 rfl ?_
                                refine q_bipush dX12_readAlp_58 (by decide +kernel) ?_
                                intro v2747 h2748
                                refine q_callVv hE (M' := mX12_needsSign) (as := [_]) dX12_readAlp_60 lk12_257 inX12_needsSign seX12_needsSign myX12_needsSign (by decide) ⟨by decide, by decide⟩ rfl (kR15 hS2732.1 ta0) (Nat.le_of_ble_eq_true rfl) rfl rfl (by decide) (by decide) (k_X12_needsSign hS2732.1 ta0) ?_
                                rintro cn' K' N' I2749 R2750 L2751 ⟨rfl, rfl, rfl, rfl, g2752, w2754, -⟩
                                have hS2755 := hS2732.tr g2752 (by decide +kernel) (by decide +kernel)
                                have c2756 : I2749 a1 0 = v29 := (g2752.cell ta1 (by decide +kernel)).trans c2735
                                have c2757 : I2749 a1 1 = v33 := (g2752.cell ta1 (by decide +kernel)).trans c2736
                                have hO2758 : FrO 14 a1 T I0 I2749 := hO2740.st g2752 (by decide +kernel)
                                have ov2759 := w2754.over (by rw [c2737]; omega)
                                obtain ⟨v2760, c2761⟩ : ∃ v, I2749 a0 9 = v := ⟨_, rfl⟩
                                have b2762 := iv15_9 hS2755.1 ta0 c2761
                                obtain ⟨v2763, c2764⟩ : ∃ v, I2749 a0 13 = v := ⟨_, rfl⟩
                                obtain ⟨v2765, c2766⟩ : ∃ v, I2749 a0 14 = v := ⟨_, rfl⟩
                                (try rw [c2761] at ov2759)
                                (try rw [c2764] at ov2759)
                                (try rw [c2766] at ov2759)
                                (try rw [c2737] at ov2759)
                                (try rw [c2738] at ov2759)
                                (try rw [c2739] at ov2759)
                                refine tr_aload_n dX12_readAlp_63 rfl ?_
                                refine tr_getR dX12_readAlp_64 fl12_188 (kR15 hS2755.1 ta0) d2 ?_
                                refine tr_getR dX12_readAlp_67 fl12_260 (kR14 hS2755.1 ta1) d310 ?_
                                refine tr_iload_n dX12_readAlp_70 rfl ?_
                                refine tr_aload_n dX12_readAlp_71 rfl ?_
                                refine q_iconst dX12_readAlp_72 (by decide) ?_
                                intro v2767 h2768
                                refine q_bipush dX12_readAlp_73 (by decide +kernel) ?_
                                intro v2769 h2770
                                refine q_callVi hE (M' := mX12_readWhole) (as := [_, _]) dX12_readAlp_75 lk12_161 inX12_readWhole seX12_readWhole myX12_readWhole (by decide) ⟨by decide, by decide⟩ rfl (kR15 hS2755.1 ta0) (Nat.le_of_ble_eq_true rfl) rfl rfl (by decide) (by decide) (k_X12_readWhole hS2755.1 ta0) ?_
                                rintro v2775 cn' K' N' I2771 R2772 L2773 ⟨rfl, rfl, rfl, rfl, g2774, p2776, w2777, -⟩
                                have hS2778 := hS2755.tr g2774 (by decide +kernel) (by decide +kernel)
                                have c2779 : I2771 a1 0 = v29 := (g2774.cell ta1 (by decide +kernel)).trans c2756
                                have c2780 : I2771 a1 1 = v33 := (g2774.cell ta1 (by decide +kernel)).trans c2757
                                have b2781 : 0 ≤ v2775.toInt ∧ v2775.toInt ≤ 99 := by omega
                                clear p2776
                                have hO2782 : FrO 14 a1 T I0 I2771 := hO2758.st g2774 (by decide +kernel)
                                have ov2783 := w2777.over (by rw [c2761]; omega)
                                obtain ⟨v2784, c2785⟩ : ∃ v, I2771 a0 9 = v := ⟨_, rfl⟩
                                have b2786 := iv15_9 hS2778.1 ta0 c2785
                                obtain ⟨v2787, c2788⟩ : ∃ v, I2771 a0 13 = v := ⟨_, rfl⟩
                                obtain ⟨v2789, c2790⟩ : ∃ v, I2771 a0 14 = v := ⟨_, rfl⟩
                                (try rw [c2785] at ov2783)
                                (try rw [c2788] at ov2783)
                                (try rw [c2790] at ov2783)
                                (try rw [c2761] at ov2783)
                                (try rw [c2764] at ov2783)
                                (try rw [c2766] at ov2783)
                                refine q_iast dX12_readAlp_78 (kR53 hS2778.1 ta309) (ti_in (nR53 hS2778.1 ta309) (by omega) (by omega)) hS2778 ta309 (iokF rfl) rfl (by rfl) ?_
                                intro I2791 hS2792 e2794 f2793
                                have c2795 : I2791 a1 0 = v29 := (f2793 _ _ (fun q => by have z := ta1; rw [q.1, ta309] at z; exact absurd z (by decide))).trans c2779
                                have c2796 : I2791 a1 1 = v33 := (f2793 _ _ (fun q => by have z := ta1; rw [q.1, ta309] at z; exact absurd z (by decide))).trans c2780
                                have c2797 : I2791 a0 9 = v2784 := (f2793 _ _ (fun q => by have z := ta0; rw [q.1, ta309] at z; exact absurd z (by decide))).trans c2785
                                have c2798 : I2791 a0 13 = v2787 := (f2793 _ _ (fun q => by have z := ta0; rw [q.1, ta309] at z; exact absurd z (by decide))).trans c2788
                                have c2799 : I2791 a0 14 = v2789 := (f2793 _ _ (fun q => by have z := ta0; rw [q.1, ta309] at z; exact absurd z (by decide))).trans c2790
                                have hO2800 : FrO 14 a1 T I0 I2791 := hO2782.put f2793 ta309 (Or.inl (by decide))
                                refine q_iincE dX12_readAlp_79 rfl (by decide) (by decide) (by intros; omega) ?_
                                intro v2801 h2802
                                refine tr_goto 48 dX12_readAlp_82 (by decide) ?_
                                refine tr_iload_n dX12_readAlp_48 rfl ?_
                                refine q_iconst dX12_readAlp_49 (by decide) ?_
                                intro v2803 h2804
                                refine q_icmp_ge 85 dX12_readAlp_50 (by decide) (fun h2805 => ?_) (fun h2805 => ?_)
                                · skip
                                  refine tr_aload_n dX12_readAlp_85 rfl ?_
                                  refine q_getI dX12_readAlp_86 fl12_99 (kR15 hS2792.1 ta0) c2797 ?_
                                  refine q_iconst dX12_readAlp_89 (by decide) ?_
                                  intro v2806 h2807
                                  refine q_icmp_ne 94 dX12_readAlp_90 (by decide) (fun h2808 => ?_) (fun h2808 => ?_)
                                  · skip
                                    exfalso; omega
                                  · skip
                                    have eF := hF.eq
                                    have eP := hP.eq
                                    obtain ⟨v2809, c2810⟩ : ∃ v, I2791 a0 10 = v := ⟨_, rfl⟩
                                    have b2811 := iv15_10 hS2792.1 ta0 c2810
                                    obtain ⟨v2812, c2813⟩ : ∃ v, I2791 a0 11 = v := ⟨_, rfl⟩
                                    obtain ⟨y2814, c2815⟩ : ∃ v, L2773 a0 15 = v := ⟨_, rfl⟩
                                    obtain ⟨v2816, c2817⟩ : ∃ v, I2791 a0 12 = v := ⟨_, rfl⟩
                                    obtain ⟨v2818, c2819⟩ : ∃ v, I2791 a0 8 = v := ⟨_, rfl⟩
                                    have b2820 := iv15_8 hS2792.1 ta0 c2819
                                    exact tr_vret hZ dX12_readAlp_93 rfl (by decide) (by decide) ⟨rfl, rfl, rfl, rfl, rfl, hS2792, (fun dr hd => (Option.some.inj (d2.symm.trans hd)) ▸ hO2800), (Or.inr (⟨(by (try rw [w107]); first | done | with_reducible assumption | omega), (by (try rw [w107]); (try rw [c2797]); first | done | with_reducible assumption | omega), (by (try rw [w107]); (try rw [c2798]); first | done | with_reducible assumption | omega), (by (try rw [w107]); (try rw [c2799]); first | done | with_reducible assumption | omega), trivial⟩)), trivial⟩
                                · skip
                                  exfalso; omega
              · skip
                obtain ⟨v2821, c2822⟩ : ∃ v, I315 a0 9 = v := ⟨_, rfl⟩
                have b2823 := iv15_9 hS323.1 ta0 c2822
                rw [c2822] at p348
                obtain ⟨v2824, c2825⟩ : ∃ v, I315 a0 13 = v := ⟨_, rfl⟩
                rw [c2825] at p349
                obtain ⟨v2826, c2827⟩ : ∃ v, I315 a0 14 = v := ⟨_, rfl⟩
                rw [c2827] at p350
                replace hF := hF.neg (by omega)
                replace hP := hP.neg (by omega)
                replace hF := hF.pos (by omega)
                replace hP := hP.pos (by omega)
                refine q_iast dX12_readAlp_78 (kR53 hS323.1 ta309) (ti_in (nR53 hS323.1 ta309) (by omega) (by omega)) hS323 ta309 (iokF rfl) rfl (by rfl) ?_
                intro I2828 hS2829 e2831 f2830
                have c2832 : I2828 a1 0 = v29 := (f2830 _ _ (fun q => by have z := ta1; rw [q.1, ta309] at z; exact absurd z (by decide))).trans c324
                have c2833 : I2828 a1 1 = v33 := (f2830 _ _ (fun q => by have z := ta1; rw [q.1, ta309] at z; exact absurd z (by decide))).trans c325
                have c2834 : I2828 a0 9 = v2821 := (f2830 _ _ (fun q => by have z := ta0; rw [q.1, ta309] at z; exact absurd z (by decide))).trans c2822
                have c2835 : I2828 a0 13 = v2824 := (f2830 _ _ (fun q => by have z := ta0; rw [q.1, ta309] at z; exact absurd z (by decide))).trans c2825
                have c2836 : I2828 a0 14 = v2826 := (f2830 _ _ (fun q => by have z := ta0; rw [q.1, ta309] at z; exact absurd z (by decide))).trans c2827
                have hO2837 : FrO 14 a1 T I0 I2828 := hO326.put f2830 ta309 (Or.inl (by decide))
                refine q_iincE dX12_readAlp_79 rfl (by decide) (by decide) (by intros; omega) ?_
                intro v2838 h2839
                refine tr_goto 48 dX12_readAlp_82 (by decide) ?_
                refine tr_iload_n dX12_readAlp_48 rfl ?_
                refine q_iconst dX12_readAlp_49 (by decide) ?_
                intro v2840 h2841
                refine q_icmp_ge 85 dX12_readAlp_50 (by decide) (fun h2842 => ?_) (fun h2842 => ?_)
                · skip
                  exfalso; omega
                · skip
                  refine tr_iload_n dX12_readAlp_53 rfl ?_
                  refine q_if_le 63 dX12_readAlp_54 (by decide) (fun h2843 => ?_) (fun h2843 => ?_)
                  · skip
                    exfalso; omega
                  · skip
                    refine tr_aload_n dX12_readAlp_57 rfl ?_
                    refine q_bipush dX12_readAlp_58 (by decide +kernel) ?_
                    intro v2844 h2845
                    refine q_callVv hE (M' := mX12_needsSign) (as := [_]) dX12_readAlp_60 lk12_257 inX12_needsSign seX12_needsSign myX12_needsSign (by decide) ⟨by decide, by decide⟩ rfl (kR15 hS2829.1 ta0) (Nat.le_of_ble_eq_true rfl) rfl rfl (by decide) (by decide) (k_X12_needsSign hS2829.1 ta0) ?_
                    rintro cn' K' N' I2846 R2847 L2848 ⟨rfl, rfl, rfl, rfl, g2849, w2851, -⟩
                    have hS2852 := hS2829.tr g2849 (by decide +kernel) (by decide +kernel)
                    have c2853 : I2846 a1 0 = v29 := (g2849.cell ta1 (by decide +kernel)).trans c2832
                    have c2854 : I2846 a1 1 = v33 := (g2849.cell ta1 (by decide +kernel)).trans c2833
                    have hO2855 : FrO 14 a1 T I0 I2846 := hO2837.st g2849 (by decide +kernel)
                    have ov2856 := w2851.over (by rw [c2834]; omega)
                    obtain ⟨v2857, c2858⟩ : ∃ v, I2846 a0 9 = v := ⟨_, rfl⟩
                    have b2859 := iv15_9 hS2852.1 ta0 c2858
                    obtain ⟨v2860, c2861⟩ : ∃ v, I2846 a0 13 = v := ⟨_, rfl⟩
                    obtain ⟨v2862, c2863⟩ : ∃ v, I2846 a0 14 = v := ⟨_, rfl⟩
                    (try rw [c2858] at ov2856)
                    (try rw [c2861] at ov2856)
                    (try rw [c2863] at ov2856)
                    (try rw [c2834] at ov2856)
                    (try rw [c2835] at ov2856)
                    (try rw [c2836] at ov2856)
                    refine tr_aload_n dX12_readAlp_63 rfl ?_
                    refine tr_getR dX12_readAlp_64 fl12_188 (kR15 hS2852.1 ta0) d2 ?_
                    refine tr_getR dX12_readAlp_67 fl12_260 (kR14 hS2852.1 ta1) d310 ?_
                    refine tr_iload_n dX12_readAlp_70 rfl ?_
                    refine tr_aload_n dX12_readAlp_71 rfl ?_
                    refine q_iconst dX12_readAlp_72 (by decide) ?_
                    intro v2864 h2865
                    refine q_bipush dX12_readAlp_73 (by decide +kernel) ?_
                    intro v2866 h2867
                    refine q_callVi hE (M' := mX12_readWhole) (as := [_, _]) dX12_readAlp_75 lk12_161 inX12_readWhole seX12_readWhole myX12_readWhole (by decide) ⟨by decide, by decide⟩ rfl (kR15 hS2852.1 ta0) (Nat.le_of_ble_eq_true rfl) rfl rfl (by decide) (by decide) (k_X12_readWhole hS2852.1 ta0) ?_
                    rintro v2872 cn' K' N' I2868 R2869 L2870 ⟨rfl, rfl, rfl, rfl, g2871, p2873, w2874, -⟩
                    have hS2875 := hS2852.tr g2871 (by decide +kernel) (by decide +kernel)
                    have c2876 : I2868 a1 0 = v29 := (g2871.cell ta1 (by decide +kernel)).trans c2853
                    have c2877 : I2868 a1 1 = v33 := (g2871.cell ta1 (by decide +kernel)).trans c2854
                    have b2878 : 0 ≤ v2872.toInt ∧ v2872.toInt ≤ 99 := by omega
                    clear p2873
                    have hO2879 : FrO 14 a1 T I0 I2868 := hO2855.st g2871 (by decide +kernel)
                    have ov2880 := w2874.over (by rw [c2858]; omega)
                    obtain ⟨v2881, c2882⟩ : ∃ v, I2868 a0 9 = v := ⟨_, rfl⟩
                    have b2883 := iv15_9 hS2875.1 ta0 c2882
                    obtain ⟨v2884, c2885⟩ : ∃ v, I2868 a0 13 = v := ⟨_, rfl⟩
                    obtain ⟨v2886, c2887⟩ : ∃ v, I2868 a0 14 = v := ⟨_, rfl⟩
                    (try rw [c2882] at ov2880)
                    (try rw [c2885] at ov2880)
                    (try rw [c2887] at ov2880)
                    (try rw [c2858] at ov2880)
                    (try rw [c2861] at ov2880)
                    (try rw [c2863] at ov2880)
                    refine q_iast dX12_readAlp_78 (kR53 hS2875.1 ta309) (ti_in (nR53 hS2875.1 ta309) (by omega) (by omega)) hS2875 ta309 (iokF rfl) rfl (by rfl) ?_
                    intro I2888 hS2889 e2891 f2890
                    have c2892 : I2888 a1 0 = v29 := (f2890 _ _ (fun q => by have z := ta1; rw [q.1, ta309] at z; exact absurd z (by decide))).trans c2876
                    have c2893 : I2888 a1 1 = v33 := (f2890 _ _ (fun q => by have z := ta1; rw [q.1, ta309] at z; exact absurd z (by decide))).trans c2877
                    have c2894 : I2888 a0 9 = v2881 := (f2890 _ _ (fun q => by have z := ta0; rw [q.1, ta309] at z; exact absurd z (by decide))).trans c2882
                    have c2895 : I2888 a0 13 = v2884 := (f2890 _ _ (fun q => by have z := ta0; rw [q.1, ta309] at z; exact absurd z (by decide))).trans c2885
                    have c2896 : I2888 a0 14 = v2886 := (f2890 _ _ (fun q => by have z := ta0; rw [q.1, ta309] at z; exact absurd z (by decide))).trans c2887
                    have hO2897 : FrO 14 a1 T I0 I2888 := hO2879.put f2890 ta309 (Or.inl (by decide))
                    refine q_iincE dX12_readAlp_79 rfl (by decide) (by decide) (by intros; omega) ?_
                    intro v2898 h2899
                    refine tr_goto 48 dX12_readAlp_82 (by decide) ?_
                    refine tr_iload_n dX12_readAlp_48 rfl ?_
                    refine q_iconst dX12_readAlp_49 (by decide) ?_
                    intro v2900 h2901
                    refine q_icmp_ge 85 dX12_readAlp_50 (by decide) (fun h2902 => ?_) (fun h2902 => ?_)
                    · skip
                      exfalso; omega
                    · skip
                      refine tr_iload_n dX12_readAlp_53 rfl ?_
                      refine q_if_le 63 dX12_readAlp_54 (by decide) (fun h2903 => ?_) (fun h2903 => ?_)
                      · skip
                        exfalso; omega
                      · skip
                        refine tr_aload_n dX12_readAlp_57 rfl ?_
                        refine q_bipush dX12_readAlp_58 (by decide +kernel) ?_
                        intro v2904 h2905
                        refine q_callVv hE (M' := mX12_needsSign) (as := [_]) dX12_readAlp_60 lk12_257 inX12_needsSign seX12_needsSign myX12_needsSign (by decide) ⟨by decide, by decide⟩ rfl (kR15 hS2889.1 ta0) (Nat.le_of_ble_eq_true rfl) rfl rfl (by decide) (by decide) (k_X12_needsSign hS2889.1 ta0) ?_
                        rintro cn' K' N' I2906 R2907 L2908 ⟨rfl, rfl, rfl, rfl, g2909, w2911, -⟩
                        have hS2912 := hS2889.tr g2909 (by decide +kernel) (by decide +kernel)
                        have c2913 : I2906 a1 0 = v29 := (g2909.cell ta1 (by decide +kernel)).trans c2892
                        have c2914 : I2906 a1 1 = v33 := (g2909.cell ta1 (by decide +kernel)).trans c2893
                        have hO2915 : FrO 14 a1 T I0 I2906 := hO2897.st g2909 (by decide +kernel)
                        have ov2916 := w2911.over (by rw [c2894]; omega)
                        obtain ⟨v2917, c2918⟩ : ∃ v, I2906 a0 9 = v := ⟨_, rfl⟩
                        have b2919 := iv15_9 hS2912.1 ta0 c2918
                        obtain ⟨v2920, c2921⟩ : ∃ v, I2906 a0 13 = v := ⟨_, rfl⟩
                        obtain ⟨v2922, c2923⟩ : ∃ v, I2906 a0 14 = v := ⟨_, rfl⟩
                        (try rw [c2918] at ov2916)
                        (try rw [c2921] at ov2916)
                        (try rw [c2923] at ov2916)
                        (try rw [c2894] at ov2916)
                        (try rw [c2895] at ov2916)
                        (try rw [c2896] at ov2916)
                        refine tr_aload_n dX12_readAlp_63 rfl ?_
                        refine tr_getR dX12_readAlp_64 fl12_188 (kR15 hS2912.1 ta0) d2 ?_
                        refine tr_getR dX12_readAlp_67 fl12_260 (kR14 hS2912.1 ta1) d310 ?_
                        refine tr_iload_n dX12_readAlp_70 rfl ?_
                        refine tr_aload_n dX12_readAlp_71 rfl ?_
                        refine q_iconst dX12_readAlp_72 (by decide) ?_
                        intro v2924 h2925
                        refine q_bipush dX12_readAlp_73 (by decide +kernel) ?_
                        intro v2926 h2927
                        refine q_callVi hE (M' := mX12_readWhole) (as := [_, _]) dX12_readAlp_75 lk12_161 inX12_readWhole seX12_readWhole myX12_readWhole (by decide) ⟨by decide, by decide⟩ rfl (kR15 hS2912.1 ta0) (Nat.le_of_ble_eq_true rfl) rfl rfl (by decide) (by decide) (k_X12_readWhole hS2912.1 ta0) ?_
                        rintro v2932 cn' K' N' I2928 R2929 L2930 ⟨rfl, rfl, rfl, rfl, g2931, p2933, w2934, -⟩
                        have hS2935 := hS2912.tr g2931 (by decide +kernel) (by decide +kernel)
                        have c2936 : I2928 a1 0 = v29 := (g2931.cell ta1 (by decide +kernel)).trans c2913
                        have c2937 : I2928 a1 1 = v33 := (g2931.cell ta1 (by decide +kernel)).trans c2914
                        have b2938 : 0 ≤ v2932.toInt ∧ v2932.toInt ≤ 99 := by omega
                        clear p2933
                        have hO2939 : FrO 14 a1 T I0 I2928 := hO2915.st g2931 (by decide +kernel)
                        have ov2940 := w2934.over (by rw [c2918]; omega)
                        obtain ⟨v2941, c2942⟩ : ∃ v, I2928 a0 9 = v := ⟨_, rfl⟩
                        have b2943 := iv15_9 hS2935.1 ta0 c2942
                        obtain ⟨v2944, c2945⟩ : ∃ v, I2928 a0 13 = v := ⟨_, rfl⟩
                        obtain ⟨v2946, c2947⟩ : ∃ v, I2928 a0 14 = v := ⟨_, rfl⟩
                        (try rw [c2942] at ov2940)
                        (try rw [c2945] at ov2940)
                        (try rw [c2947] at ov2940)
                        (try rw [c2918] at ov2940)
                        (try rw [c2921] at ov2940)
                        (try rw [c2923] at ov2940)
                        refine q_iast dX12_readAlp_78 (kR53 hS2935.1 ta309) (ti_in (nR53 hS2935.1 ta309) (by omega) (by omega)) hS2935 ta309 (iokF rfl) rfl (by rfl) ?_
                        intro I2948 hS2949 e2951 f2950
                        have c2952 : I2948 a1 0 = v29 := (f2950 _ _ (fun q => by have z := ta1; rw [q.1, ta309] at z; exact absurd z (by decide))).trans c2936
                        have c2953 : I2948 a1 1 = v33 := (f2950 _ _ (fun q => by have z := ta1; rw [q.1, ta309] at z; exact absurd z (by decide))).trans c2937
                        have c2954 : I2948 a0 9 = v2941 := (f2950 _ _ (fun q => by have z := ta0; rw [q.1, ta309] at z; exact absurd z (by decide))).trans c2942
                        have c2955 : I2948 a0 13 = v2944 := (f2950 _ _ (fun q => by have z := ta0; rw [q.1, ta309] at z; exact absurd z (by decide))).trans c2945
                        have c2956 : I2948 a0 14 = v2946 := (f2950 _ _ (fun q => by have z := ta0; rw [q.1, ta309] at z; exact absurd z (by decide))).trans c2947
                        have hO2957 : FrO 14 a1 T I0 I2948 := hO2939.put f2950 ta309 (Or.inl (by decide))
                        refine q_iincE dX12_readAlp_79 rfl (by decide) (by decide) (by intros; omega) ?_
                        intro v2958 h2959
                        refine tr_goto 48 dX12_readAlp_82 (by decide) ?_
                        refine tr_iload_n dX12_readAlp_48 rfl ?_
                        refine q_iconst dX12_readAlp_49 (by decide) ?_
                        intro v2960 h2961
                        refine q_icmp_ge 85 dX12_readAlp_50 (by decide) (fun h2962 => ?_) (fun h2962 => ?_)
                        · skip
                          exfalso; omega
                        · skip
                          refine tr_iload_n dX12_readAlp_53 rfl ?_
                          refine q_if_le 63 dX12_readAlp_54 (by decide) (fun h2963 => ?_) (fun h2963 => ?_)
                          · skip
                            exfalso; omega
                          · skip
                            refine tr_aload_n dX12_readAlp_57 rfl ?_
                            refine q_bipush dX12_readAlp_58 (by decide +kernel) ?_
                            intro v2964 h2965
                            refine q_callVv hE (M' := mX12_needsSign) (as := [_]) dX12_readAlp_60 lk12_257 inX12_needsSign seX12_needsSign myX12_needsSign (by decide) ⟨by decide, by decide⟩ rfl (kR15 hS2949.1 ta0) (Nat.le_of_ble_eq_true rfl) rfl rfl (by decide) (by decide) (k_X12_needsSign hS2949.1 ta0) ?_
                            rintro cn' K' N' I2966 R2967 L2968 ⟨rfl, rfl, rfl, rfl, g2969, w2971, -⟩
                            have hS2972 := hS2949.tr g2969 (by decide +kernel) (by decide +kernel)
                            have c2973 : I2966 a1 0 = v29 := (g2969.cell ta1 (by decide +kernel)).trans c2952
                            have c2974 : I2966 a1 1 = v33 := (g2969.cell ta1 (by decide +kernel)).trans c2953
                            have hO2975 : FrO 14 a1 T I0 I2966 := hO2957.st g2969 (by decide +kernel)
                            have ov2976 := w2971.over (by rw [c2954]; omega)
                            obtain ⟨v2977, c2978⟩ : ∃ v, I2966 a0 9 = v := ⟨_, rfl⟩
                            have b2979 := iv15_9 hS2972.1 ta0 c2978
                            obtain ⟨v2980, c2981⟩ : ∃ v, I2966 a0 13 = v := ⟨_, rfl⟩
                            obtain ⟨v2982, c2983⟩ : ∃ v, I2966 a0 14 = v := ⟨_, rfl⟩
                            (try rw [c2978] at ov2976)
                            (try rw [c2981] at ov2976)
                            (try rw [c2983] at ov2976)
                            (try rw [c2954] at ov2976)
                            (try rw [c2955] at ov2976)
                            (try rw [c2956] at ov2976)
                            refine tr_aload_n dX12_readAlp_63 rfl ?_
                            refine tr_getR dX12_readAlp_64 fl12_188 (kR15 hS2972.1 ta0) d2 ?_
                            refine tr_getR dX12_readAlp_67 fl12_260 (kR14 hS2972.1 ta1) d310 ?_
                            refine tr_iload_n dX12_readAlp_70 rfl ?_
                            refine tr_aload_n dX12_readAlp_71 rfl ?_
                            refine q_iconst dX12_readAlp_72 (by decide) ?_
                            intro v2984 h2985
                            refine q_bipush dX12_readAlp_73 (by decide +kernel) ?_
                            intro v2986 h2987
                            refine q_callVi hE (M' := mX12_readWhole) (as := [_, _]) dX12_readAlp_75 lk12_161 inX12_readWhole seX12_readWhole myX12_readWhole (by decide) ⟨by decide, by decide⟩ rfl (kR15 hS2972.1 ta0) (Nat.le_of_ble_eq_true rfl) rfl rfl (by decide) (by decide) (k_X12_readWhole hS2972.1 ta0) ?_
                            rintro v2992 cn' K' N' I2988 R2989 L2990 ⟨rfl, rfl, rfl, rfl, g2991, p2993, w2994, -⟩
                            have hS2995 := hS2972.tr g2991 (by decide +kernel) (by decide +kernel)
                            have c2996 : I2988 a1 0 = v29 := (g2991.cell ta1 (by decide +kernel)).trans c2973
                            have c2997 : I2988 a1 1 = v33 := (g2991.cell ta1 (by decide +kernel)).trans c2974
                            have b2998 : 0 ≤ v2992.toInt ∧ v2992.toInt ≤ 99 := by omega
                            clear p2993
                            have hO2999 : FrO 14 a1 T I0 I2988 := hO2975.st g2991 (by decide +kernel)
                            have ov3000 := w2994.over (by rw [c2978]; omega)
                            obtain ⟨v3001, c3002⟩ : ∃ v, I2988 a0 9 = v := ⟨_, rfl⟩
                            have b3003 := iv15_9 hS2995.1 ta0 c3002
                            obtain ⟨v3004, c3005⟩ : ∃ v, I2988 a0 13 = v := ⟨_, rfl⟩
                            obtain ⟨v3006, c3007⟩ : ∃ v, I2988 a0 14 = v := ⟨_, rfl⟩
                            (try rw [c3002] at ov3000)
                            (try rw [c3005] at ov3000)
                            (try rw [c3007] at ov3000)
                            (try rw [c2978] at ov3000)
                            (try rw [c2981] at ov3000)
                            (try rw [c2983] at ov3000)
                            refine q_iast dX12_readAlp_78 (kR53 hS2995.1 ta309) (ti_in (nR53 hS2995.1 ta309) (by omega) (by omega)) hS2995 ta309 (iokF rfl) rfl (by rfl) ?_
                            intro I3008 hS3009 e3011 f3010
                            have c3012 : I3008 a1 0 = v29 := (f3010 _ _ (fun q => by have z := ta1; rw [q.1, ta309] at z; exact absurd z (by decide))).trans c2996
                            have c3013 : I3008 a1 1 = v33 := (f3010 _ _ (fun q => by have z := ta1; rw [q.1, ta309] at z; exact absurd z (by decide))).trans c2997
                            have c3014 : I3008 a0 9 = v3001 := (f3010 _ _ (fun q => by have z := ta0; rw [q.1, ta309] at z; exact absurd z (by decide))).trans c3002
                            have c3015 : I3008 a0 13 = v3004 := (f3010 _ _ (fun q => by have z := ta0; rw [q.1, ta309] at z; exact absurd z (by decide))).trans c3005
                            have c3016 : I3008 a0 14 = v3006 := (f3010 _ _ (fun q => by have z := ta0; rw [q.1, ta309] at z; exact absurd z (by decide))).trans c3007
                            have hO3017 : FrO 14 a1 T I0 I3008 := hO2999.put f3010 ta309 (Or.inl (by decide))
                            refine q_iincE dX12_readAlp_79 rfl (by decide) (by decide) (by intros; omega) ?_
                            intro v3018 h3019
                            refine tr_goto 48 dX12_readAlp_82 (by decide) ?_
                            refine tr_iload_n dX12_readAlp_48 rfl ?_
                            refine q_iconst dX12_readAlp_49 (by decide) ?_
                            intro v3020 h3021
                            refine q_icmp_ge 85 dX12_readAlp_50 (by decide) (fun h3022 => ?_) (fun h3022 => ?_)
                            · skip
                              exfalso; omega
                            · skip
                              refine tr_iload_n dX12_readAlp_53 rfl ?_
                              refine q_if_le 63 dX12_readAlp_54 (by decide) (fun h3023 => ?_) (fun h3023 => ?_)
                              · skip
                                exfalso; omega
                              · skip
                                refine tr_aload_n dX12_readAlp_57 rfl ?_
                                refine q_bipush dX12_readAlp_58 (by decide +kernel) ?_
                                intro v3024 h3025
                                refine q_callVv hE (M' := mX12_needsSign) (as := [_]) dX12_readAlp_60 lk12_257 inX12_needsSign seX12_needsSign myX12_needsSign (by decide) ⟨by decide, by decide⟩ rfl (kR15 hS3009.1 ta0) (Nat.le_of_ble_eq_true rfl) rfl rfl (by decide) (by decide) (k_X12_needsSign hS3009.1 ta0) ?_
                                rintro cn' K' N' I3026 R3027 L3028 ⟨rfl, rfl, rfl, rfl, g3029, w3031, -⟩
                                have hS3032 := hS3009.tr g3029 (by decide +kernel) (by decide +kernel)
                                have c3033 : I3026 a1 0 = v29 := (g3029.cell ta1 (by decide +kernel)).trans c3012
                                have c3034 : I3026 a1 1 = v33 := (g3029.cell ta1 (by decide +kernel)).trans c3013
                                have hO3035 : FrO 14 a1 T I0 I3026 := hO3017.st g3029 (by decide +kernel)
                                have ov3036 := w3031.over (by rw [c3014]; omega)
                                obtain ⟨v3037, c3038⟩ : ∃ v, I3026 a0 9 = v := ⟨_, rfl⟩
                                have b3039 := iv15_9 hS3032.1 ta0 c3038
                                obtain ⟨v3040, c3041⟩ : ∃ v, I3026 a0 13 = v := ⟨_, rfl⟩
                                obtain ⟨v3042, c3043⟩ : ∃ v, I3026 a0 14 = v := ⟨_, rfl⟩
                                (try rw [c3038] at ov3036)
                                (try rw [c3041] at ov3036)
                                (try rw [c3043] at ov3036)
                                (try rw [c3014] at ov3036)
                                (try rw [c3015] at ov3036)
                                (try rw [c3016] at ov3036)
                                refine tr_aload_n dX12_readAlp_63 rfl ?_
                                refine tr_getR dX12_readAlp_64 fl12_188 (kR15 hS3032.1 ta0) d2 ?_
                                refine tr_getR dX12_readAlp_67 fl12_260 (kR14 hS3032.1 ta1) d310 ?_
                                refine tr_iload_n dX12_readAlp_70 rfl ?_
                                refine tr_aload_n dX12_readAlp_71 rfl ?_
                                refine q_iconst dX12_readAlp_72 (by decide) ?_
                                intro v3044 h3045
                                refine q_bipush dX12_readAlp_73 (by decide +kernel) ?_
                                intro v3046 h3047
                                refine q_callVi hE (M' := mX12_readWhole) (as := [_, _]) dX12_readAlp_75 lk12_161 inX12_readWhole seX12_readWhole myX12_readWhole (by decide) ⟨by decide, by decide⟩ rfl (kR15 hS3032.1 ta0) (Nat.le_of_ble_eq_true rfl) rfl rfl (by decide) (by decide) (k_X12_readWhole hS3032.1 ta0) ?_
                                rintro v3052 cn' K' N' I3048 R3049 L3050 ⟨rfl, rfl, rfl, rfl, g3051, p3053, w3054, -⟩
                                have hS3055 := hS3032.tr g3051 (by decide +kernel) (by decide +kernel)
                                have c3056 : I3048 a1 0 = v29 := (g3051.cell ta1 (by decide +kernel)).trans c3033
                                have c3057 : I3048 a1 1 = v33 := (g3051.cell ta1 (by decide +kernel)).trans c3034
                                have b3058 : 0 ≤ v3052.toInt ∧ v3052.toInt ≤ 99 := by omega
                                clear p3053
                                have hO3059 : FrO 14 a1 T I0 I3048 := hO3035.st g3051 (by decide +kernel)
                                have ov3060 := w3054.over (by rw [c3038]; omega)
                                obtain ⟨v3061, c3062⟩ : ∃ v, I3048 a0 9 = v := ⟨_, rfl⟩
                                have b3063 := iv15_9 hS3055.1 ta0 c3062
                                obtain ⟨v3064, c3065⟩ : ∃ v, I3048 a0 13 = v := ⟨_, rfl⟩
                                obtain ⟨v3066, c3067⟩ : ∃ v, I3048 a0 14 = v := ⟨_, rfl⟩
                                (try rw [c3062] at ov3060)
                                (try rw [c3065] at ov3060)
                                (try rw [c3067] at ov3060)
                                (try rw [c3038] at ov3060)
                                (try rw [c3041] at ov3060)
                                (try rw [c3043] at ov3060)
                                refine q_iast dX12_readAlp_78 (kR53 hS3055.1 ta309) (ti_in (nR53 hS3055.1 ta309) (by omega) (by omega)) hS3055 ta309 (iokF rfl) rfl (by rfl) ?_
                                intro I3068 hS3069 e3071 f3070
                                have c3072 : I3068 a1 0 = v29 := (f3070 _ _ (fun q => by have z := ta1; rw [q.1, ta309] at z; exact absurd z (by decide))).trans c3056
                                have c3073 : I3068 a1 1 = v33 := (f3070 _ _ (fun q => by have z := ta1; rw [q.1, ta309] at z; exact absurd z (by decide))).trans c3057
                                have c3074 : I3068 a0 9 = v3061 := (f3070 _ _ (fun q => by have z := ta0; rw [q.1, ta309] at z; exact absurd z (by decide))).trans c3062
                                have c3075 : I3068 a0 13 = v3064 := (f3070 _ _ (fun q => by have z := ta0; rw [q.1, ta309] at z; exact absurd z (by decide))).trans c3065
                                have c3076 : I3068 a0 14 = v3066 := (f3070 _ _ (fun q => by have z := ta0; rw [q.1, ta309] at z; exact absurd z (by decide))).trans c3067
                                have hO3077 : FrO 14 a1 T I0 I3068 := hO3059.put f3070 ta309 (Or.inl (by decide))
                                refine q_iincE dX12_readAlp_79 rfl (by decide) (by decide) (by intros; omega) ?_
                                intro v3078 h3079
                                refine tr_goto 48 dX12_readAlp_82 (by decide) ?_
                                refine tr_iload_n dX12_readAlp_48 rfl ?_
                                refine q_iconst dX12_readAlp_49 (by decide) ?_
                                intro v3080 h3081
                                refine q_icmp_ge 85 dX12_readAlp_50 (by decide) (fun h3082 => ?_) (fun h3082 => ?_)
                                · skip
                                  refine tr_aload_n dX12_readAlp_85 rfl ?_
                                  refine q_getI dX12_readAlp_86 fl12_99 (kR15 hS3069.1 ta0) c3074 ?_
                                  refine q_iconst dX12_readAlp_89 (by decide) ?_
                                  intro v3083 h3084
                                  refine q_icmp_ne 94 dX12_readAlp_90 (by decide) (fun h3085 => ?_) (fun h3085 => ?_)
                                  · skip
                                    exfalso; omega
                                  · skip
                                    have eF := hF.eq
                                    have eP := hP.eq
                                    obtain ⟨v3086, c3087⟩ : ∃ v, I3068 a0 10 = v := ⟨_, rfl⟩
                                    have b3088 := iv15_10 hS3069.1 ta0 c3087
                                    obtain ⟨v3089, c3090⟩ : ∃ v, I3068 a0 11 = v := ⟨_, rfl⟩
                                    obtain ⟨y3091, c3092⟩ : ∃ v, L3050 a0 15 = v := ⟨_, rfl⟩
                                    obtain ⟨v3093, c3094⟩ : ∃ v, I3068 a0 12 = v := ⟨_, rfl⟩
                                    obtain ⟨v3095, c3096⟩ : ∃ v, I3068 a0 8 = v := ⟨_, rfl⟩
                                    have b3097 := iv15_8 hS3069.1 ta0 c3096
                                    exact tr_vret hZ dX12_readAlp_93 rfl (by decide) (by decide) ⟨rfl, rfl, rfl, rfl, rfl, hS3069, (fun dr hd => (Option.some.inj (d2.symm.trans hd)) ▸ hO3077), (Or.inr (⟨(by (try rw [w107]); first | done | with_reducible assumption | omega), (by (try rw [w107]); (try rw [c3074]); first | done | with_reducible assumption | omega), (by (try rw [w107]); (try rw [c3075]); first | done | with_reducible assumption | omega), (by (try rw [w107]); (try rw [c3076]); first | done | with_reducible assumption | omega), trivial⟩)), trivial⟩
                                · skip
                                  exfalso; omega
            · skip
              exfalso; omega
        · skip
          obtain ⟨v3098, c3099⟩ : ∃ v, I257 a0 9 = v := ⟨_, rfl⟩
          have b3100 := iv15_9 hS265.1 ta0 c3099
          rw [c3099] at p281
          obtain ⟨v3101, c3102⟩ : ∃ v, I257 a0 13 = v := ⟨_, rfl⟩
          rw [c3102] at p282
          obtain ⟨v3103, c3104⟩ : ∃ v, I257 a0 14 = v := ⟨_, rfl⟩
          rw [c3104] at p283
          replace hF := hF.pos (by omega)
          replace hP := hP.pos (by omega)
          refine q_iconst dX12_readAlp_46 (by decide) ?_
          intro v3105 h3106
          refine tr_istore_n dX12_readAlp_47 (by decide) (by decide) ?_
          refine tr_iload_n dX12_readAlp_48 rfl ?_
          refine q_iconst dX12_readAlp_49 (by decide) ?_
          intro v3107 h3108
          refine q_icmp_ge 85 dX12_readAlp_50 (by decide) (fun h3109 => ?_) (fun h3109 => ?_)
          · skip
            exfalso; omega
          · skip
            refine tr_iload_n dX12_readAlp_53 rfl ?_
            refine q_if_le 63 dX12_readAlp_54 (by decide) (fun h3110 => ?_) (fun h3110 => ?_)
            · skip
              refine tr_aload_n dX12_readAlp_63 rfl ?_
              refine tr_getR dX12_readAlp_64 fl12_188 (kR15 hS265.1 ta0) d2 ?_
              obtain ⟨a3111, d3112, ta3111⟩ := rf14_10 hW0 ta1
              refine tr_getR dX12_readAlp_67 fl12_260 (kR14 hS265.1 ta1) d3112 ?_
              refine tr_iload_n dX12_readAlp_70 rfl ?_
              refine tr_aload_n dX12_readAlp_71 rfl ?_
              refine q_iconst dX12_readAlp_72 (by decide) ?_
              intro v3113 h3114
              refine q_bipush dX12_readAlp_73 (by decide +kernel) ?_
              intro v3115 h3116
              refine q_callVi hE (M' := mX12_readWhole) (as := [_, _]) dX12_readAlp_75 lk12_161 inX12_readWhole seX12_readWhole myX12_readWhole (by decide) ⟨by decide, by decide⟩ rfl (kR15 hS265.1 ta0) (Nat.le_of_ble_eq_true rfl) rfl rfl (by decide) (by decide) (k_X12_readWhole hS265.1 ta0) ?_
              rintro v3121 cn' K' N' I3117 R3118 L3119 ⟨rfl, rfl, rfl, rfl, g3120, p3122, w3123, -⟩
              have hS3124 := hS265.tr g3120 (by decide +kernel) (by decide +kernel)
              have c3125 : I3117 a1 0 = v29 := (g3120.cell ta1 (by decide +kernel)).trans c266
              have c3126 : I3117 a1 1 = v33 := (g3120.cell ta1 (by decide +kernel)).trans c267
              have b3127 : 0 ≤ v3121.toInt ∧ v3121.toInt ≤ 99 := by omega
              clear p3122
              have hO3128 : FrO 14 a1 T I0 I3117 := hO268.st g3120 (by decide +kernel)
              have ov3129 := w3123.over (by rw [c3099]; omega)
              obtain ⟨v3130, c3131⟩ : ∃ v, I3117 a0 9 = v := ⟨_, rfl⟩
              have b3132 := iv15_9 hS3124.1 ta0 c3131
              obtain ⟨v3133, c3134⟩ : ∃ v, I3117 a0 13 = v := ⟨_, rfl⟩
              obtain ⟨v3135, c3136⟩ : ∃ v, I3117 a0 14 = v := ⟨_, rfl⟩
              (try rw [c3131] at ov3129)
              (try rw [c3134] at ov3129)
              (try rw [c3136] at ov3129)
              (try rw [c3099] at ov3129)
              (try rw [c3102] at ov3129)
              (try rw [c3104] at ov3129)
              refine q_iast dX12_readAlp_78 (kR53 hS3124.1 ta3111) (ti_in (nR53 hS3124.1 ta3111) (by omega) (by omega)) hS3124 ta3111 (iokF rfl) rfl (by rfl) ?_
              intro I3137 hS3138 e3140 f3139
              have c3141 : I3137 a1 0 = v29 := (f3139 _ _ (fun q => by have z := ta1; rw [q.1, ta3111] at z; exact absurd z (by decide))).trans c3125
              have c3142 : I3137 a1 1 = v33 := (f3139 _ _ (fun q => by have z := ta1; rw [q.1, ta3111] at z; exact absurd z (by decide))).trans c3126
              have c3143 : I3137 a0 9 = v3130 := (f3139 _ _ (fun q => by have z := ta0; rw [q.1, ta3111] at z; exact absurd z (by decide))).trans c3131
              have c3144 : I3137 a0 13 = v3133 := (f3139 _ _ (fun q => by have z := ta0; rw [q.1, ta3111] at z; exact absurd z (by decide))).trans c3134
              have c3145 : I3137 a0 14 = v3135 := (f3139 _ _ (fun q => by have z := ta0; rw [q.1, ta3111] at z; exact absurd z (by decide))).trans c3136
              have hO3146 : FrO 14 a1 T I0 I3137 := hO3128.put f3139 ta3111 (Or.inl (by decide))
              refine q_iincE dX12_readAlp_79 rfl (by decide) (by decide) (by intros; omega) ?_
              intro v3147 h3148
              refine tr_goto 48 dX12_readAlp_82 (by decide) ?_
              refine tr_iload_n dX12_readAlp_48 rfl ?_
              refine q_iconst dX12_readAlp_49 (by decide) ?_
              intro v3149 h3150
              refine q_icmp_ge 85 dX12_readAlp_50 (by decide) (fun h3151 => ?_) (fun h3151 => ?_)
              · skip
                exfalso; omega
              · skip
                refine tr_iload_n dX12_readAlp_53 rfl ?_
                refine q_if_le 63 dX12_readAlp_54 (by decide) (fun h3152 => ?_) (fun h3152 => ?_)
                · skip
                  exfalso; omega
                · skip
                  refine tr_aload_n dX12_readAlp_57 rfl ?_
                  refine q_bipush dX12_readAlp_58 (by decide +kernel) ?_
                  intro v3153 h3154
                  refine q_callVv hE (M' := mX12_needsSign) (as := [_]) dX12_readAlp_60 lk12_257 inX12_needsSign seX12_needsSign myX12_needsSign (by decide) ⟨by decide, by decide⟩ rfl (kR15 hS3138.1 ta0) (Nat.le_of_ble_eq_true rfl) rfl rfl (by decide) (by decide) (k_X12_needsSign hS3138.1 ta0) ?_
                  rintro cn' K' N' I3155 R3156 L3157 ⟨rfl, rfl, rfl, rfl, g3158, w3160, -⟩
                  have hS3161 := hS3138.tr g3158 (by decide +kernel) (by decide +kernel)
                  have c3162 : I3155 a1 0 = v29 := (g3158.cell ta1 (by decide +kernel)).trans c3141
                  have c3163 : I3155 a1 1 = v33 := (g3158.cell ta1 (by decide +kernel)).trans c3142
                  have hO3164 : FrO 14 a1 T I0 I3155 := hO3146.st g3158 (by decide +kernel)
                  have ov3165 := w3160.over (by rw [c3143]; omega)
                  obtain ⟨v3166, c3167⟩ : ∃ v, I3155 a0 9 = v := ⟨_, rfl⟩
                  have b3168 := iv15_9 hS3161.1 ta0 c3167
                  obtain ⟨v3169, c3170⟩ : ∃ v, I3155 a0 13 = v := ⟨_, rfl⟩
                  obtain ⟨v3171, c3172⟩ : ∃ v, I3155 a0 14 = v := ⟨_, rfl⟩
                  (try rw [c3167] at ov3165)
                  (try rw [c3170] at ov3165)
                  (try rw [c3172] at ov3165)
                  (try rw [c3143] at ov3165)
                  (try rw [c3144] at ov3165)
                  (try rw [c3145] at ov3165)
                  refine tr_aload_n dX12_readAlp_63 rfl ?_
                  refine tr_getR dX12_readAlp_64 fl12_188 (kR15 hS3161.1 ta0) d2 ?_
                  refine tr_getR dX12_readAlp_67 fl12_260 (kR14 hS3161.1 ta1) d3112 ?_
                  refine tr_iload_n dX12_readAlp_70 rfl ?_
                  refine tr_aload_n dX12_readAlp_71 rfl ?_
                  refine q_iconst dX12_readAlp_72 (by decide) ?_
                  intro v3173 h3174
                  refine q_bipush dX12_readAlp_73 (by decide +kernel) ?_
                  intro v3175 h3176
                  refine q_callVi hE (M' := mX12_readWhole) (as := [_, _]) dX12_readAlp_75 lk12_161 inX12_readWhole seX12_readWhole myX12_readWhole (by decide) ⟨by decide, by decide⟩ rfl (kR15 hS3161.1 ta0) (Nat.le_of_ble_eq_true rfl) rfl rfl (by decide) (by decide) (k_X12_readWhole hS3161.1 ta0) ?_
                  rintro v3181 cn' K' N' I3177 R3178 L3179 ⟨rfl, rfl, rfl, rfl, g3180, p3182, w3183, -⟩
                  have hS3184 := hS3161.tr g3180 (by decide +kernel) (by decide +kernel)
                  have c3185 : I3177 a1 0 = v29 := (g3180.cell ta1 (by decide +kernel)).trans c3162
                  have c3186 : I3177 a1 1 = v33 := (g3180.cell ta1 (by decide +kernel)).trans c3163
                  have b3187 : 0 ≤ v3181.toInt ∧ v3181.toInt ≤ 99 := by omega
                  clear p3182
                  have hO3188 : FrO 14 a1 T I0 I3177 := hO3164.st g3180 (by decide +kernel)
                  have ov3189 := w3183.over (by rw [c3167]; omega)
                  obtain ⟨v3190, c3191⟩ : ∃ v, I3177 a0 9 = v := ⟨_, rfl⟩
                  have b3192 := iv15_9 hS3184.1 ta0 c3191
                  obtain ⟨v3193, c3194⟩ : ∃ v, I3177 a0 13 = v := ⟨_, rfl⟩
                  obtain ⟨v3195, c3196⟩ : ∃ v, I3177 a0 14 = v := ⟨_, rfl⟩
                  (try rw [c3191] at ov3189)
                  (try rw [c3194] at ov3189)
                  (try rw [c3196] at ov3189)
                  (try rw [c3167] at ov3189)
                  (try rw [c3170] at ov3189)
                  (try rw [c3172] at ov3189)
                  refine q_iast dX12_readAlp_78 (kR53 hS3184.1 ta3111) (ti_in (nR53 hS3184.1 ta3111) (by omega) (by omega)) hS3184 ta3111 (iokF rfl) rfl (by rfl) ?_
                  intro I3197 hS3198 e3200 f3199
                  have c3201 : I3197 a1 0 = v29 := (f3199 _ _ (fun q => by have z := ta1; rw [q.1, ta3111] at z; exact absurd z (by decide))).trans c3185
                  have c3202 : I3197 a1 1 = v33 := (f3199 _ _ (fun q => by have z := ta1; rw [q.1, ta3111] at z; exact absurd z (by decide))).trans c3186
                  have c3203 : I3197 a0 9 = v3190 := (f3199 _ _ (fun q => by have z := ta0; rw [q.1, ta3111] at z; exact absurd z (by decide))).trans c3191
                  have c3204 : I3197 a0 13 = v3193 := (f3199 _ _ (fun q => by have z := ta0; rw [q.1, ta3111] at z; exact absurd z (by decide))).trans c3194
                  have c3205 : I3197 a0 14 = v3195 := (f3199 _ _ (fun q => by have z := ta0; rw [q.1, ta3111] at z; exact absurd z (by decide))).trans c3196
                  have hO3206 : FrO 14 a1 T I0 I3197 := hO3188.put f3199 ta3111 (Or.inl (by decide))
                  refine q_iincE dX12_readAlp_79 rfl (by decide) (by decide) (by intros; omega) ?_
                  intro v3207 h3208
                  refine tr_goto 48 dX12_readAlp_82 (by decide) ?_
                  refine tr_iload_n dX12_readAlp_48 rfl ?_
                  refine q_iconst dX12_readAlp_49 (by decide) ?_
                  intro v3209 h3210
                  refine q_icmp_ge 85 dX12_readAlp_50 (by decide) (fun h3211 => ?_) (fun h3211 => ?_)
                  · skip
                    exfalso; omega
                  · skip
                    refine tr_iload_n dX12_readAlp_53 rfl ?_
                    refine q_if_le 63 dX12_readAlp_54 (by decide) (fun h3212 => ?_) (fun h3212 => ?_)
                    · skip
                      exfalso; omega
                    · skip
                      refine tr_aload_n dX12_readAlp_57 rfl ?_
                      refine q_bipush dX12_readAlp_58 (by decide +kernel) ?_
                      intro v3213 h3214
                      refine q_callVv hE (M' := mX12_needsSign) (as := [_]) dX12_readAlp_60 lk12_257 inX12_needsSign seX12_needsSign myX12_needsSign (by decide) ⟨by decide, by decide⟩ rfl (kR15 hS3198.1 ta0) (Nat.le_of_ble_eq_true rfl) rfl rfl (by decide) (by decide) (k_X12_needsSign hS3198.1 ta0) ?_
                      rintro cn' K' N' I3215 R3216 L3217 ⟨rfl, rfl, rfl, rfl, g3218, w3220, -⟩
                      have hS3221 := hS3198.tr g3218 (by decide +kernel) (by decide +kernel)
                      have c3222 : I3215 a1 0 = v29 := (g3218.cell ta1 (by decide +kernel)).trans c3201
                      have c3223 : I3215 a1 1 = v33 := (g3218.cell ta1 (by decide +kernel)).trans c3202
                      have hO3224 : FrO 14 a1 T I0 I3215 := hO3206.st g3218 (by decide +kernel)
                      have ov3225 := w3220.over (by rw [c3203]; omega)
                      obtain ⟨v3226, c3227⟩ : ∃ v, I3215 a0 9 = v := ⟨_, rfl⟩
                      have b3228 := iv15_9 hS3221.1 ta0 c3227
                      obtain ⟨v3229, c3230⟩ : ∃ v, I3215 a0 13 = v := ⟨_, rfl⟩
                      obtain ⟨v3231, c3232⟩ : ∃ v, I3215 a0 14 = v := ⟨_, rfl⟩
                      (try rw [c3227] at ov3225)
                      (try rw [c3230] at ov3225)
                      (try rw [c3232] at ov3225)
                      (try rw [c3203] at ov3225)
                      (try rw [c3204] at ov3225)
                      (try rw [c3205] at ov3225)
                      refine tr_aload_n dX12_readAlp_63 rfl ?_
                      refine tr_getR dX12_readAlp_64 fl12_188 (kR15 hS3221.1 ta0) d2 ?_
                      refine tr_getR dX12_readAlp_67 fl12_260 (kR14 hS3221.1 ta1) d3112 ?_
                      refine tr_iload_n dX12_readAlp_70 rfl ?_
                      refine tr_aload_n dX12_readAlp_71 rfl ?_
                      refine q_iconst dX12_readAlp_72 (by decide) ?_
                      intro v3233 h3234
                      refine q_bipush dX12_readAlp_73 (by decide +kernel) ?_
                      intro v3235 h3236
                      refine q_callVi hE (M' := mX12_readWhole) (as := [_, _]) dX12_readAlp_75 lk12_161 inX12_readWhole seX12_readWhole myX12_readWhole (by decide) ⟨by decide, by decide⟩ rfl (kR15 hS3221.1 ta0) (Nat.le_of_ble_eq_true rfl) rfl rfl (by decide) (by decide) (k_X12_readWhole hS3221.1 ta0) ?_
                      rintro v3241 cn' K' N' I3237 R3238 L3239 ⟨rfl, rfl, rfl, rfl, g3240, p3242, w3243, -⟩
                      have hS3244 := hS3221.tr g3240 (by decide +kernel) (by decide +kernel)
                      have c3245 : I3237 a1 0 = v29 := (g3240.cell ta1 (by decide +kernel)).trans c3222
                      have c3246 : I3237 a1 1 = v33 := (g3240.cell ta1 (by decide +kernel)).trans c3223
                      have b3247 : 0 ≤ v3241.toInt ∧ v3241.toInt ≤ 99 := by omega
                      clear p3242
                      have hO3248 : FrO 14 a1 T I0 I3237 := hO3224.st g3240 (by decide +kernel)
                      have ov3249 := w3243.over (by rw [c3227]; omega)
                      obtain ⟨v3250, c3251⟩ : ∃ v, I3237 a0 9 = v := ⟨_, rfl⟩
                      have b3252 := iv15_9 hS3244.1 ta0 c3251
                      obtain ⟨v3253, c3254⟩ : ∃ v, I3237 a0 13 = v := ⟨_, rfl⟩
                      obtain ⟨v3255, c3256⟩ : ∃ v, I3237 a0 14 = v := ⟨_, rfl⟩
                      (try rw [c3251] at ov3249)
                      (try rw [c3254] at ov3249)
                      (try rw [c3256] at ov3249)
                      (try rw [c3227] at ov3249)
                      (try rw [c3230] at ov3249)
                      (try rw [c3232] at ov3249)
                      refine q_iast dX12_readAlp_78 (kR53 hS3244.1 ta3111) (ti_in (nR53 hS3244.1 ta3111) (by omega) (by omega)) hS3244 ta3111 (iokF rfl) rfl (by rfl) ?_
                      intro I3257 hS3258 e3260 f3259
                      have c3261 : I3257 a1 0 = v29 := (f3259 _ _ (fun q => by have z := ta1; rw [q.1, ta3111] at z; exact absurd z (by decide))).trans c3245
                      have c3262 : I3257 a1 1 = v33 := (f3259 _ _ (fun q => by have z := ta1; rw [q.1, ta3111] at z; exact absurd z (by decide))).trans c3246
                      have c3263 : I3257 a0 9 = v3250 := (f3259 _ _ (fun q => by have z := ta0; rw [q.1, ta3111] at z; exact absurd z (by decide))).trans c3251
                      have c3264 : I3257 a0 13 = v3253 := (f3259 _ _ (fun q => by have z := ta0; rw [q.1, ta3111] at z; exact absurd z (by decide))).trans c3254
                      have c3265 : I3257 a0 14 = v3255 := (f3259 _ _ (fun q => by have z := ta0; rw [q.1, ta3111] at z; exact absurd z (by decide))).trans c3256
                      have hO3266 : FrO 14 a1 T I0 I3257 := hO3248.put f3259 ta3111 (Or.inl (by decide))
                      refine q_iincE dX12_readAlp_79 rfl (by decide) (by decide) (by intros; omega) ?_
                      intro v3267 h3268
                      refine tr_goto 48 dX12_readAlp_82 (by decide) ?_
                      refine tr_iload_n dX12_readAlp_48 rfl ?_
                      refine q_iconst dX12_readAlp_49 (by decide) ?_
                      intro v3269 h3270
                      refine q_icmp_ge 85 dX12_readAlp_50 (by decide) (fun h3271 => ?_) (fun h3271 => ?_)
                      · skip
                        exfalso; omega
                      · skip
                        refine tr_iload_n dX12_readAlp_53 rfl ?_
                        refine q_if_le 63 dX12_readAlp_54 (by decide) (fun h3272 => ?_) (fun h3272 => ?_)
                        · skip
                          exfalso; omega
                        · skip
                          refine tr_aload_n dX12_readAlp_57 rfl ?_
                          refine q_bipush dX12_readAlp_58 (by decide +kernel) ?_
                          intro v3273 h3274
                          refine q_callVv hE (M' := mX12_needsSign) (as := [_]) dX12_readAlp_60 lk12_257 inX12_needsSign seX12_needsSign myX12_needsSign (by decide) ⟨by decide, by decide⟩ rfl (kR15 hS3258.1 ta0) (Nat.le_of_ble_eq_true rfl) rfl rfl (by decide) (by decide) (k_X12_needsSign hS3258.1 ta0) ?_
                          rintro cn' K' N' I3275 R3276 L3277 ⟨rfl, rfl, rfl, rfl, g3278, w3280, -⟩
                          have hS3281 := hS3258.tr g3278 (by decide +kernel) (by decide +kernel)
                          have c3282 : I3275 a1 0 = v29 := (g3278.cell ta1 (by decide +kernel)).trans c3261
                          have c3283 : I3275 a1 1 = v33 := (g3278.cell ta1 (by decide +kernel)).trans c3262
                          have hO3284 : FrO 14 a1 T I0 I3275 := hO3266.st g3278 (by decide +kernel)
                          have ov3285 := w3280.over (by rw [c3263]; omega)
                          obtain ⟨v3286, c3287⟩ : ∃ v, I3275 a0 9 = v := ⟨_, rfl⟩
                          have b3288 := iv15_9 hS3281.1 ta0 c3287
                          obtain ⟨v3289, c3290⟩ : ∃ v, I3275 a0 13 = v := ⟨_, rfl⟩
                          obtain ⟨v3291, c3292⟩ : ∃ v, I3275 a0 14 = v := ⟨_, rfl⟩
                          (try rw [c3287] at ov3285)
                          (try rw [c3290] at ov3285)
                          (try rw [c3292] at ov3285)
                          (try rw [c3263] at ov3285)
                          (try rw [c3264] at ov3285)
                          (try rw [c3265] at ov3285)
                          refine tr_aload_n dX12_readAlp_63 rfl ?_
                          refine tr_getR dX12_readAlp_64 fl12_188 (kR15 hS3281.1 ta0) d2 ?_
                          refine tr_getR dX12_readAlp_67 fl12_260 (kR14 hS3281.1 ta1) d3112 ?_
                          refine tr_iload_n dX12_readAlp_70 rfl ?_
                          refine tr_aload_n dX12_readAlp_71 rfl ?_
                          refine q_iconst dX12_readAlp_72 (by decide) ?_
                          intro v3293 h3294
                          refine q_bipush dX12_readAlp_73 (by decide +kernel) ?_
                          intro v3295 h3296
                          refine q_callVi hE (M' := mX12_readWhole) (as := [_, _]) dX12_readAlp_75 lk12_161 inX12_readWhole seX12_readWhole myX12_readWhole (by decide) ⟨by decide, by decide⟩ rfl (kR15 hS3281.1 ta0) (Nat.le_of_ble_eq_true rfl) rfl rfl (by decide) (by decide) (k_X12_readWhole hS3281.1 ta0) ?_
                          rintro v3301 cn' K' N' I3297 R3298 L3299 ⟨rfl, rfl, rfl, rfl, g3300, p3302, w3303, -⟩
                          have hS3304 := hS3281.tr g3300 (by decide +kernel) (by decide +kernel)
                          have c3305 : I3297 a1 0 = v29 := (g3300.cell ta1 (by decide +kernel)).trans c3282
                          have c3306 : I3297 a1 1 = v33 := (g3300.cell ta1 (by decide +kernel)).trans c3283
                          have b3307 : 0 ≤ v3301.toInt ∧ v3301.toInt ≤ 99 := by omega
                          clear p3302
                          have hO3308 : FrO 14 a1 T I0 I3297 := hO3284.st g3300 (by decide +kernel)
                          have ov3309 := w3303.over (by rw [c3287]; omega)
                          obtain ⟨v3310, c3311⟩ : ∃ v, I3297 a0 9 = v := ⟨_, rfl⟩
                          have b3312 := iv15_9 hS3304.1 ta0 c3311
                          obtain ⟨v3313, c3314⟩ : ∃ v, I3297 a0 13 = v := ⟨_, rfl⟩
                          obtain ⟨v3315, c3316⟩ : ∃ v, I3297 a0 14 = v := ⟨_, rfl⟩
                          (try rw [c3311] at ov3309)
                          (try rw [c3314] at ov3309)
                          (try rw [c3316] at ov3309)
                          (try rw [c3287] at ov3309)
                          (try rw [c3290] at ov3309)
                          (try rw [c3292] at ov3309)
                          refine q_iast dX12_readAlp_78 (kR53 hS3304.1 ta3111) (ti_in (nR53 hS3304.1 ta3111) (by omega) (by omega)) hS3304 ta3111 (iokF rfl) rfl (by rfl) ?_
                          intro I3317 hS3318 e3320 f3319
                          have c3321 : I3317 a1 0 = v29 := (f3319 _ _ (fun q => by have z := ta1; rw [q.1, ta3111] at z; exact absurd z (by decide))).trans c3305
                          have c3322 : I3317 a1 1 = v33 := (f3319 _ _ (fun q => by have z := ta1; rw [q.1, ta3111] at z; exact absurd z (by decide))).trans c3306
                          have c3323 : I3317 a0 9 = v3310 := (f3319 _ _ (fun q => by have z := ta0; rw [q.1, ta3111] at z; exact absurd z (by decide))).trans c3311
                          have c3324 : I3317 a0 13 = v3313 := (f3319 _ _ (fun q => by have z := ta0; rw [q.1, ta3111] at z; exact absurd z (by decide))).trans c3314
                          have c3325 : I3317 a0 14 = v3315 := (f3319 _ _ (fun q => by have z := ta0; rw [q.1, ta3111] at z; exact absurd z (by decide))).trans c3316
                          have hO3326 : FrO 14 a1 T I0 I3317 := hO3308.put f3319 ta3111 (Or.inl (by decide))
                          refine q_iincE dX12_readAlp_79 rfl (by decide) (by decide) (by intros; omega) ?_
                          intro v3327 h3328
                          refine tr_goto 48 dX12_readAlp_82 (by decide) ?_
                          refine tr_iload_n dX12_readAlp_48 rfl ?_
                          refine q_iconst dX12_readAlp_49 (by decide) ?_
                          intro v3329 h3330
                          refine q_icmp_ge 85 dX12_readAlp_50 (by decide) (fun h3331 => ?_) (fun h3331 => ?_)
                          · skip
                            exfalso; omega
                          · skip
                            refine tr_iload_n dX12_readAlp_53 rfl ?_
                            refine q_if_le 63 dX12_readAlp_54 (by decide) (fun h3332 => ?_) (fun h3332 => ?_)
                            · skip
                              exfalso; omega
                            · skip
                              refine tr_aload_n dX12_readAlp_57 rfl ?_
                              refine q_bipush dX12_readAlp_58 (by decide +kernel) ?_
                              intro v3333 h3334
                              refine q_callVv hE (M' := mX12_needsSign) (as := [_]) dX12_readAlp_60 lk12_257 inX12_needsSign seX12_needsSign myX12_needsSign (by decide) ⟨by decide, by decide⟩ rfl (kR15 hS3318.1 ta0) (Nat.le_of_ble_eq_true rfl) rfl rfl (by decide) (by decide) (k_X12_needsSign hS3318.1 ta0) ?_
                              rintro cn' K' N' I3335 R3336 L3337 ⟨rfl, rfl, rfl, rfl, g3338, w3340, -⟩
                              have hS3341 := hS3318.tr g3338 (by decide +kernel) (by decide +kernel)
                              have c3342 : I3335 a1 0 = v29 := (g3338.cell ta1 (by decide +kernel)).trans c3321
                              have c3343 : I3335 a1 1 = v33 := (g3338.cell ta1 (by decide +kernel)).trans c3322
                              have hO3344 : FrO 14 a1 T I0 I3335 := hO3326.st g3338 (by decide +kernel)
                              have ov3345 := w3340.over (by rw [c3323]; omega)
                              obtain ⟨v3346, c3347⟩ : ∃ v, I3335 a0 9 = v := ⟨_, rfl⟩
                              have b3348 := iv15_9 hS3341.1 ta0 c3347
                              obtain ⟨v3349, c3350⟩ : ∃ v, I3335 a0 13 = v := ⟨_, rfl⟩
                              obtain ⟨v3351, c3352⟩ : ∃ v, I3335 a0 14 = v := ⟨_, rfl⟩
                              (try rw [c3347] at ov3345)
                              (try rw [c3350] at ov3345)
                              (try rw [c3352] at ov3345)
                              (try rw [c3323] at ov3345)
                              (try rw [c3324] at ov3345)
                              (try rw [c3325] at ov3345)
                              refine tr_aload_n dX12_readAlp_63 rfl ?_
                              refine tr_getR dX12_readAlp_64 fl12_188 (kR15 hS3341.1 ta0) d2 ?_
                              refine tr_getR dX12_readAlp_67 fl12_260 (kR14 hS3341.1 ta1) d3112 ?_
                              refine tr_iload_n dX12_readAlp_70 rfl ?_
                              refine tr_aload_n dX12_readAlp_71 rfl ?_
                              refine q_iconst dX12_readAlp_72 (by decide) ?_
                              intro v3353 h3354
                              refine q_bipush dX12_readAlp_73 (by decide +kernel) ?_
                              intro v3355 h3356
                              refine q_callVi hE (M' := mX12_readWhole) (as := [_, _]) dX12_readAlp_75 lk12_161 inX12_readWhole seX12_readWhole myX12_readWhole (by decide) ⟨by decide, by decide⟩ rfl (kR15 hS3341.1 ta0) (Nat.le_of_ble_eq_true rfl) rfl rfl (by decide) (by decide) (k_X12_readWhole hS3341.1 ta0) ?_
                              rintro v3361 cn' K' N' I3357 R3358 L3359 ⟨rfl, rfl, rfl, rfl, g3360, p3362, w3363, -⟩
                              have hS3364 := hS3341.tr g3360 (by decide +kernel) (by decide +kernel)
                              have c3365 : I3357 a1 0 = v29 := (g3360.cell ta1 (by decide +kernel)).trans c3342
                              have c3366 : I3357 a1 1 = v33 := (g3360.cell ta1 (by decide +kernel)).trans c3343
                              have b3367 : 0 ≤ v3361.toInt ∧ v3361.toInt ≤ 99 := by omega
                              clear p3362
                              have hO3368 : FrO 14 a1 T I0 I3357 := hO3344.st g3360 (by decide +kernel)
                              have ov3369 := w3363.over (by rw [c3347]; omega)
                              obtain ⟨v3370, c3371⟩ : ∃ v, I3357 a0 9 = v := ⟨_, rfl⟩
                              have b3372 := iv15_9 hS3364.1 ta0 c3371
                              obtain ⟨v3373, c3374⟩ : ∃ v, I3357 a0 13 = v := ⟨_, rfl⟩
                              obtain ⟨v3375, c3376⟩ : ∃ v, I3357 a0 14 = v := ⟨_, rfl⟩
                              (try rw [c3371] at ov3369)
                              (try rw [c3374] at ov3369)
                              (try rw [c3376] at ov3369)
                              (try rw [c3347] at ov3369)
                              (try rw [c3350] at ov3369)
                              (try rw [c3352] at ov3369)
                              refine q_iast dX12_readAlp_78 (kR53 hS3364.1 ta3111) (ti_in (nR53 hS3364.1 ta3111) (by omega) (by omega)) hS3364 ta3111 (iokF rfl) rfl (by rfl) ?_
                              intro I3377 hS3378 e3380 f3379
                              have c3381 : I3377 a1 0 = v29 := (f3379 _ _ (fun q => by have z := ta1; rw [q.1, ta3111] at z; exact absurd z (by decide))).trans c3365
                              have c3382 : I3377 a1 1 = v33 := (f3379 _ _ (fun q => by have z := ta1; rw [q.1, ta3111] at z; exact absurd z (by decide))).trans c3366
                              have c3383 : I3377 a0 9 = v3370 := (f3379 _ _ (fun q => by have z := ta0; rw [q.1, ta3111] at z; exact absurd z (by decide))).trans c3371
                              have c3384 : I3377 a0 13 = v3373 := (f3379 _ _ (fun q => by have z := ta0; rw [q.1, ta3111] at z; exact absurd z (by decide))).trans c3374
                              have c3385 : I3377 a0 14 = v3375 := (f3379 _ _ (fun q => by have z := ta0; rw [q.1, ta3111] at z; exact absurd z (by decide))).trans c3376
                              have hO3386 : FrO 14 a1 T I0 I3377 := hO3368.put f3379 ta3111 (Or.inl (by decide))
                              refine q_iincE dX12_readAlp_79 rfl (by decide) (by decide) (by intros; omega) ?_
                              intro v3387 h3388
                              refine tr_goto 48 dX12_readAlp_82 (by decide) ?_
                              refine tr_iload_n dX12_readAlp_48 rfl ?_
                              refine q_iconst dX12_readAlp_49 (by decide) ?_
                              intro v3389 h3390
                              refine q_icmp_ge 85 dX12_readAlp_50 (by decide) (fun h3391 => ?_) (fun h3391 => ?_)
                              · skip
                                refine tr_aload_n dX12_readAlp_85 rfl ?_
                                refine q_getI dX12_readAlp_86 fl12_99 (kR15 hS3378.1 ta0) c3383 ?_
                                refine q_iconst dX12_readAlp_89 (by decide) ?_
                                intro v3392 h3393
                                refine q_icmp_ne 94 dX12_readAlp_90 (by decide) (fun h3394 => ?_) (fun h3394 => ?_)
                                · skip
                                  exfalso; omega
                                · skip
                                  have eF := hF.eq
                                  have eP := hP.eq
                                  obtain ⟨v3395, c3396⟩ : ∃ v, I3377 a0 10 = v := ⟨_, rfl⟩
                                  have b3397 := iv15_10 hS3378.1 ta0 c3396
                                  obtain ⟨v3398, c3399⟩ : ∃ v, I3377 a0 11 = v := ⟨_, rfl⟩
                                  obtain ⟨y3400, c3401⟩ : ∃ v, L3359 a0 15 = v := ⟨_, rfl⟩
                                  obtain ⟨v3402, c3403⟩ : ∃ v, I3377 a0 12 = v := ⟨_, rfl⟩
                                  obtain ⟨v3404, c3405⟩ : ∃ v, I3377 a0 8 = v := ⟨_, rfl⟩
                                  have b3406 := iv15_8 hS3378.1 ta0 c3405
                                  exact tr_vret hZ dX12_readAlp_93 rfl (by decide) (by decide) ⟨rfl, rfl, rfl, rfl, rfl, hS3378, (fun dr hd => (Option.some.inj (d2.symm.trans hd)) ▸ hO3386), (Or.inr (⟨(by (try rw [w107]); first | done | with_reducible assumption | omega), (by (try rw [w107]); (try rw [c3383]); first | done | with_reducible assumption | omega), (by (try rw [w107]); (try rw [c3384]); first | done | with_reducible assumption | omega), (by (try rw [w107]); (try rw [c3385]); first | done | with_reducible assumption | omega), trivial⟩)), trivial⟩
                              · skip
                                exfalso; omega
            · skip
              exfalso; omega
      · skip
        obtain ⟨v3407, c3408⟩ : ∃ v, I191 a0 9 = v := ⟨_, rfl⟩
        have b3409 := iv15_9 hS199.1 ta0 c3408
        rw [c3408] at p220
        obtain ⟨v3410, c3411⟩ : ∃ v, I191 a0 13 = v := ⟨_, rfl⟩
        rw [c3411] at p221
        obtain ⟨v3412, c3413⟩ : ∃ v, I191 a0 14 = v := ⟨_, rfl⟩
        rw [c3413] at p222
        replace hF := hF.pos (by omega)
        replace hP := hP.pos (by omega)
        refine tr_istore_n dX12_readAlp_39 (by decide) (by decide) ?_
        refine tr_aload_n dX12_readAlp_40 rfl ?_
        refine tr_ldcS dX12_readAlp_41 ld12_255 ?_
        refine q_callVv hE (M' := mX12_needs) (as := [_]) dX12_readAlp_43 lk12_157 inX12_needs seX12_needs myX12_needs (by decide) ⟨by decide, by decide⟩ rfl (kR15 hS199.1 ta0) (Nat.le_of_ble_eq_true rfl) rfl rfl (by decide) (by decide) (k_X12_needs hS199.1 ta0 (by decide)) ?_
        rintro cn' K' N' I3414 R3415 L3416 ⟨rfl, rfl, rfl, rfl, g3417, w3419, -⟩
        have hS3420 := hS199.tr g3417 (by decide +kernel) (by decide +kernel)
        have c3421 : I3414 a1 0 = v29 := (g3417.cell ta1 (by decide +kernel)).trans c200
        have c3422 : I3414 a1 1 = v33 := (g3417.cell ta1 (by decide +kernel)).trans c201
        have hO3423 : FrO 14 a1 T I0 I3414 := hO202.st g3417 (by decide +kernel)
        have ov3424 := w3419.over (by rw [c3408]; omega)
        obtain ⟨v3425, c3426⟩ : ∃ v, I3414 a0 9 = v := ⟨_, rfl⟩
        have b3427 := iv15_9 hS3420.1 ta0 c3426
        obtain ⟨v3428, c3429⟩ : ∃ v, I3414 a0 13 = v := ⟨_, rfl⟩
        obtain ⟨v3430, c3431⟩ : ∃ v, I3414 a0 14 = v := ⟨_, rfl⟩
        (try rw [c3426] at ov3424)
        (try rw [c3429] at ov3424)
        (try rw [c3431] at ov3424)
        (try rw [c3408] at ov3424)
        (try rw [c3411] at ov3424)
        (try rw [c3413] at ov3424)
        refine q_iconst dX12_readAlp_46 (by decide) ?_
        intro v3432 h3433
        refine tr_istore_n dX12_readAlp_47 (by decide) (by decide) ?_
        refine tr_iload_n dX12_readAlp_48 rfl ?_
        refine q_iconst dX12_readAlp_49 (by decide) ?_
        intro v3434 h3435
        refine q_icmp_ge 85 dX12_readAlp_50 (by decide) (fun h3436 => ?_) (fun h3436 => ?_)
        · skip
          exfalso; omega
        · skip
          refine tr_iload_n dX12_readAlp_53 rfl ?_
          refine q_if_le 63 dX12_readAlp_54 (by decide) (fun h3437 => ?_) (fun h3437 => ?_)
          · skip
            refine tr_aload_n dX12_readAlp_63 rfl ?_
            refine tr_getR dX12_readAlp_64 fl12_188 (kR15 hS3420.1 ta0) d2 ?_
            obtain ⟨a3438, d3439, ta3438⟩ := rf14_10 hW0 ta1
            refine tr_getR dX12_readAlp_67 fl12_260 (kR14 hS3420.1 ta1) d3439 ?_
            refine tr_iload_n dX12_readAlp_70 rfl ?_
            refine tr_aload_n dX12_readAlp_71 rfl ?_
            refine q_iconst dX12_readAlp_72 (by decide) ?_
            intro v3440 h3441
            refine q_bipush dX12_readAlp_73 (by decide +kernel) ?_
            intro v3442 h3443
            refine q_callVi hE (M' := mX12_readWhole) (as := [_, _]) dX12_readAlp_75 lk12_161 inX12_readWhole seX12_readWhole myX12_readWhole (by decide) ⟨by decide, by decide⟩ rfl (kR15 hS3420.1 ta0) (Nat.le_of_ble_eq_true rfl) rfl rfl (by decide) (by decide) (k_X12_readWhole hS3420.1 ta0) ?_
            rintro v3448 cn' K' N' I3444 R3445 L3446 ⟨rfl, rfl, rfl, rfl, g3447, p3449, w3450, -⟩
            have hS3451 := hS3420.tr g3447 (by decide +kernel) (by decide +kernel)
            have c3452 : I3444 a1 0 = v29 := (g3447.cell ta1 (by decide +kernel)).trans c3421
            have c3453 : I3444 a1 1 = v33 := (g3447.cell ta1 (by decide +kernel)).trans c3422
            have b3454 : 0 ≤ v3448.toInt ∧ v3448.toInt ≤ 99 := by omega
            clear p3449
            have hO3455 : FrO 14 a1 T I0 I3444 := hO3423.st g3447 (by decide +kernel)
            have ov3456 := w3450.over (by rw [c3426]; omega)
            obtain ⟨v3457, c3458⟩ : ∃ v, I3444 a0 9 = v := ⟨_, rfl⟩
            have b3459 := iv15_9 hS3451.1 ta0 c3458
            obtain ⟨v3460, c3461⟩ : ∃ v, I3444 a0 13 = v := ⟨_, rfl⟩
            obtain ⟨v3462, c3463⟩ : ∃ v, I3444 a0 14 = v := ⟨_, rfl⟩
            (try rw [c3458] at ov3456)
            (try rw [c3461] at ov3456)
            (try rw [c3463] at ov3456)
            (try rw [c3426] at ov3456)
            (try rw [c3429] at ov3456)
            (try rw [c3431] at ov3456)
            refine q_iast dX12_readAlp_78 (kR53 hS3451.1 ta3438) (ti_in (nR53 hS3451.1 ta3438) (by omega) (by omega)) hS3451 ta3438 (iokF rfl) rfl (by rfl) ?_
            intro I3464 hS3465 e3467 f3466
            have c3468 : I3464 a1 0 = v29 := (f3466 _ _ (fun q => by have z := ta1; rw [q.1, ta3438] at z; exact absurd z (by decide))).trans c3452
            have c3469 : I3464 a1 1 = v33 := (f3466 _ _ (fun q => by have z := ta1; rw [q.1, ta3438] at z; exact absurd z (by decide))).trans c3453
            have c3470 : I3464 a0 9 = v3457 := (f3466 _ _ (fun q => by have z := ta0; rw [q.1, ta3438] at z; exact absurd z (by decide))).trans c3458
            have c3471 : I3464 a0 13 = v3460 := (f3466 _ _ (fun q => by have z := ta0; rw [q.1, ta3438] at z; exact absurd z (by decide))).trans c3461
            have c3472 : I3464 a0 14 = v3462 := (f3466 _ _ (fun q => by have z := ta0; rw [q.1, ta3438] at z; exact absurd z (by decide))).trans c3463
            have hO3473 : FrO 14 a1 T I0 I3464 := hO3455.put f3466 ta3438 (Or.inl (by decide))
            refine q_iincE dX12_readAlp_79 rfl (by decide) (by decide) (by intros; omega) ?_
            intro v3474 h3475
            refine tr_goto 48 dX12_readAlp_82 (by decide) ?_
            refine tr_iload_n dX12_readAlp_48 rfl ?_
            refine q_iconst dX12_readAlp_49 (by decide) ?_
            intro v3476 h3477
            refine q_icmp_ge 85 dX12_readAlp_50 (by decide) (fun h3478 => ?_) (fun h3478 => ?_)
            · skip
              exfalso; omega
            · skip
              refine tr_iload_n dX12_readAlp_53 rfl ?_
              refine q_if_le 63 dX12_readAlp_54 (by decide) (fun h3479 => ?_) (fun h3479 => ?_)
              · skip
                exfalso; omega
              · skip
                refine tr_aload_n dX12_readAlp_57 rfl ?_
                refine q_bipush dX12_readAlp_58 (by decide +kernel) ?_
                intro v3480 h3481
                refine q_callVv hE (M' := mX12_needsSign) (as := [_]) dX12_readAlp_60 lk12_257 inX12_needsSign seX12_needsSign myX12_needsSign (by decide) ⟨by decide, by decide⟩ rfl (kR15 hS3465.1 ta0) (Nat.le_of_ble_eq_true rfl) rfl rfl (by decide) (by decide) (k_X12_needsSign hS3465.1 ta0) ?_
                rintro cn' K' N' I3482 R3483 L3484 ⟨rfl, rfl, rfl, rfl, g3485, w3487, -⟩
                have hS3488 := hS3465.tr g3485 (by decide +kernel) (by decide +kernel)
                have c3489 : I3482 a1 0 = v29 := (g3485.cell ta1 (by decide +kernel)).trans c3468
                have c3490 : I3482 a1 1 = v33 := (g3485.cell ta1 (by decide +kernel)).trans c3469
                have hO3491 : FrO 14 a1 T I0 I3482 := hO3473.st g3485 (by decide +kernel)
                have ov3492 := w3487.over (by rw [c3470]; omega)
                obtain ⟨v3493, c3494⟩ : ∃ v, I3482 a0 9 = v := ⟨_, rfl⟩
                have b3495 := iv15_9 hS3488.1 ta0 c3494
                obtain ⟨v3496, c3497⟩ : ∃ v, I3482 a0 13 = v := ⟨_, rfl⟩
                obtain ⟨v3498, c3499⟩ : ∃ v, I3482 a0 14 = v := ⟨_, rfl⟩
                (try rw [c3494] at ov3492)
                (try rw [c3497] at ov3492)
                (try rw [c3499] at ov3492)
                (try rw [c3470] at ov3492)
                (try rw [c3471] at ov3492)
                (try rw [c3472] at ov3492)
                refine tr_aload_n dX12_readAlp_63 rfl ?_
                refine tr_getR dX12_readAlp_64 fl12_188 (kR15 hS3488.1 ta0) d2 ?_
                refine tr_getR dX12_readAlp_67 fl12_260 (kR14 hS3488.1 ta1) d3439 ?_
                refine tr_iload_n dX12_readAlp_70 rfl ?_
                refine tr_aload_n dX12_readAlp_71 rfl ?_
                refine q_iconst dX12_readAlp_72 (by decide) ?_
                intro v3500 h3501
                refine q_bipush dX12_readAlp_73 (by decide +kernel) ?_
                intro v3502 h3503
                refine q_callVi hE (M' := mX12_readWhole) (as := [_, _]) dX12_readAlp_75 lk12_161 inX12_readWhole seX12_readWhole myX12_readWhole (by decide) ⟨by decide, by decide⟩ rfl (kR15 hS3488.1 ta0) (Nat.le_of_ble_eq_true rfl) rfl rfl (by decide) (by decide) (k_X12_readWhole hS3488.1 ta0) ?_
                rintro v3508 cn' K' N' I3504 R3505 L3506 ⟨rfl, rfl, rfl, rfl, g3507, p3509, w3510, -⟩
                have hS3511 := hS3488.tr g3507 (by decide +kernel) (by decide +kernel)
                have c3512 : I3504 a1 0 = v29 := (g3507.cell ta1 (by decide +kernel)).trans c3489
                have c3513 : I3504 a1 1 = v33 := (g3507.cell ta1 (by decide +kernel)).trans c3490
                have b3514 : 0 ≤ v3508.toInt ∧ v3508.toInt ≤ 99 := by omega
                clear p3509
                have hO3515 : FrO 14 a1 T I0 I3504 := hO3491.st g3507 (by decide +kernel)
                have ov3516 := w3510.over (by rw [c3494]; omega)
                obtain ⟨v3517, c3518⟩ : ∃ v, I3504 a0 9 = v := ⟨_, rfl⟩
                have b3519 := iv15_9 hS3511.1 ta0 c3518
                obtain ⟨v3520, c3521⟩ : ∃ v, I3504 a0 13 = v := ⟨_, rfl⟩
                obtain ⟨v3522, c3523⟩ : ∃ v, I3504 a0 14 = v := ⟨_, rfl⟩
                (try rw [c3518] at ov3516)
                (try rw [c3521] at ov3516)
                (try rw [c3523] at ov3516)
                (try rw [c3494] at ov3516)
                (try rw [c3497] at ov3516)
                (try rw [c3499] at ov3516)
                refine q_iast dX12_readAlp_78 (kR53 hS3511.1 ta3438) (ti_in (nR53 hS3511.1 ta3438) (by omega) (by omega)) hS3511 ta3438 (iokF rfl) rfl (by rfl) ?_
                intro I3524 hS3525 e3527 f3526
                have c3528 : I3524 a1 0 = v29 := (f3526 _ _ (fun q => by have z := ta1; rw [q.1, ta3438] at z; exact absurd z (by decide))).trans c3512
                have c3529 : I3524 a1 1 = v33 := (f3526 _ _ (fun q => by have z := ta1; rw [q.1, ta3438] at z; exact absurd z (by decide))).trans c3513
                have c3530 : I3524 a0 9 = v3517 := (f3526 _ _ (fun q => by have z := ta0; rw [q.1, ta3438] at z; exact absurd z (by decide))).trans c3518
                have c3531 : I3524 a0 13 = v3520 := (f3526 _ _ (fun q => by have z := ta0; rw [q.1, ta3438] at z; exact absurd z (by decide))).trans c3521
                have c3532 : I3524 a0 14 = v3522 := (f3526 _ _ (fun q => by have z := ta0; rw [q.1, ta3438] at z; exact absurd z (by decide))).trans c3523
                have hO3533 : FrO 14 a1 T I0 I3524 := hO3515.put f3526 ta3438 (Or.inl (by decide))
                refine q_iincE dX12_readAlp_79 rfl (by decide) (by decide) (by intros; omega) ?_
                intro v3534 h3535
                refine tr_goto 48 dX12_readAlp_82 (by decide) ?_
                refine tr_iload_n dX12_readAlp_48 rfl ?_
                refine q_iconst dX12_readAlp_49 (by decide) ?_
                intro v3536 h3537
                refine q_icmp_ge 85 dX12_readAlp_50 (by decide) (fun h3538 => ?_) (fun h3538 => ?_)
                · skip
                  exfalso; omega
                · skip
                  refine tr_iload_n dX12_readAlp_53 rfl ?_
                  refine q_if_le 63 dX12_readAlp_54 (by decide) (fun h3539 => ?_) (fun h3539 => ?_)
                  · skip
                    exfalso; omega
                  · skip
                    refine tr_aload_n dX12_readAlp_57 rfl ?_
                    refine q_bipush dX12_readAlp_58 (by decide +kernel) ?_
                    intro v3540 h3541
                    refine q_callVv hE (M' := mX12_needsSign) (as := [_]) dX12_readAlp_60 lk12_257 inX12_needsSign seX12_needsSign myX12_needsSign (by decide) ⟨by decide, by decide⟩ rfl (kR15 hS3525.1 ta0) (Nat.le_of_ble_eq_true rfl) rfl rfl (by decide) (by decide) (k_X12_needsSign hS3525.1 ta0) ?_
                    rintro cn' K' N' I3542 R3543 L3544 ⟨rfl, rfl, rfl, rfl, g3545, w3547, -⟩
                    have hS3548 := hS3525.tr g3545 (by decide +kernel) (by decide +kernel)
                    have c3549 : I3542 a1 0 = v29 := (g3545.cell ta1 (by decide +kernel)).trans c3528
                    have c3550 : I3542 a1 1 = v33 := (g3545.cell ta1 (by decide +kernel)).trans c3529
                    have hO3551 : FrO 14 a1 T I0 I3542 := hO3533.st g3545 (by decide +kernel)
                    have ov3552 := w3547.over (by rw [c3530]; omega)
                    obtain ⟨v3553, c3554⟩ : ∃ v, I3542 a0 9 = v := ⟨_, rfl⟩
                    have b3555 := iv15_9 hS3548.1 ta0 c3554
                    obtain ⟨v3556, c3557⟩ : ∃ v, I3542 a0 13 = v := ⟨_, rfl⟩
                    obtain ⟨v3558, c3559⟩ : ∃ v, I3542 a0 14 = v := ⟨_, rfl⟩
                    (try rw [c3554] at ov3552)
                    (try rw [c3557] at ov3552)
                    (try rw [c3559] at ov3552)
                    (try rw [c3530] at ov3552)
                    (try rw [c3531] at ov3552)
                    (try rw [c3532] at ov3552)
                    refine tr_aload_n dX12_readAlp_63 rfl ?_
                    refine tr_getR dX12_readAlp_64 fl12_188 (kR15 hS3548.1 ta0) d2 ?_
                    refine tr_getR dX12_readAlp_67 fl12_260 (kR14 hS3548.1 ta1) d3439 ?_
                    refine tr_iload_n dX12_readAlp_70 rfl ?_
                    refine tr_aload_n dX12_readAlp_71 rfl ?_
                    refine q_iconst dX12_readAlp_72 (by decide) ?_
                    intro v3560 h3561
                    refine q_bipush dX12_readAlp_73 (by decide +kernel) ?_
                    intro v3562 h3563
                    refine q_callVi hE (M' := mX12_readWhole) (as := [_, _]) dX12_readAlp_75 lk12_161 inX12_readWhole seX12_readWhole myX12_readWhole (by decide) ⟨by decide, by decide⟩ rfl (kR15 hS3548.1 ta0) (Nat.le_of_ble_eq_true rfl) rfl rfl (by decide) (by decide) (k_X12_readWhole hS3548.1 ta0) ?_
                    rintro v3568 cn' K' N' I3564 R3565 L3566 ⟨rfl, rfl, rfl, rfl, g3567, p3569, w3570, -⟩
                    have hS3571 := hS3548.tr g3567 (by decide +kernel) (by decide +kernel)
                    have c3572 : I3564 a1 0 = v29 := (g3567.cell ta1 (by decide +kernel)).trans c3549
                    have c3573 : I3564 a1 1 = v33 := (g3567.cell ta1 (by decide +kernel)).trans c3550
                    have b3574 : 0 ≤ v3568.toInt ∧ v3568.toInt ≤ 99 := by omega
                    clear p3569
                    have hO3575 : FrO 14 a1 T I0 I3564 := hO3551.st g3567 (by decide +kernel)
                    have ov3576 := w3570.over (by rw [c3554]; omega)
                    obtain ⟨v3577, c3578⟩ : ∃ v, I3564 a0 9 = v := ⟨_, rfl⟩
                    have b3579 := iv15_9 hS3571.1 ta0 c3578
                    obtain ⟨v3580, c3581⟩ : ∃ v, I3564 a0 13 = v := ⟨_, rfl⟩
                    obtain ⟨v3582, c3583⟩ : ∃ v, I3564 a0 14 = v := ⟨_, rfl⟩
                    (try rw [c3578] at ov3576)
                    (try rw [c3581] at ov3576)
                    (try rw [c3583] at ov3576)
                    (try rw [c3554] at ov3576)
                    (try rw [c3557] at ov3576)
                    (try rw [c3559] at ov3576)
                    refine q_iast dX12_readAlp_78 (kR53 hS3571.1 ta3438) (ti_in (nR53 hS3571.1 ta3438) (by omega) (by omega)) hS3571 ta3438 (iokF rfl) rfl (by rfl) ?_
                    intro I3584 hS3585 e3587 f3586
                    have c3588 : I3584 a1 0 = v29 := (f3586 _ _ (fun q => by have z := ta1; rw [q.1, ta3438] at z; exact absurd z (by decide))).trans c3572
                    have c3589 : I3584 a1 1 = v33 := (f3586 _ _ (fun q => by have z := ta1; rw [q.1, ta3438] at z; exact absurd z (by decide))).trans c3573
                    have c3590 : I3584 a0 9 = v3577 := (f3586 _ _ (fun q => by have z := ta0; rw [q.1, ta3438] at z; exact absurd z (by decide))).trans c3578
                    have c3591 : I3584 a0 13 = v3580 := (f3586 _ _ (fun q => by have z := ta0; rw [q.1, ta3438] at z; exact absurd z (by decide))).trans c3581
                    have c3592 : I3584 a0 14 = v3582 := (f3586 _ _ (fun q => by have z := ta0; rw [q.1, ta3438] at z; exact absurd z (by decide))).trans c3583
                    have hO3593 : FrO 14 a1 T I0 I3584 := hO3575.put f3586 ta3438 (Or.inl (by decide))
                    refine q_iincE dX12_readAlp_79 rfl (by decide) (by decide) (by intros; omega) ?_
                    intro v3594 h3595
                    refine tr_goto 48 dX12_readAlp_82 (by decide) ?_
                    refine tr_iload_n dX12_readAlp_48 rfl ?_
                    refine q_iconst dX12_readAlp_49 (by decide) ?_
                    intro v3596 h3597
                    refine q_icmp_ge 85 dX12_readAlp_50 (by decide) (fun h3598 => ?_) (fun h3598 => ?_)
                    · skip
                      exfalso; omega
                    · skip
                      refine tr_iload_n dX12_readAlp_53 rfl ?_
                      refine q_if_le 63 dX12_readAlp_54 (by decide) (fun h3599 => ?_) (fun h3599 => ?_)
                      · skip
                        exfalso; omega
                      · skip
                        refine tr_aload_n dX12_readAlp_57 rfl ?_
                        refine q_bipush dX12_readAlp_58 (by decide +kernel) ?_
                        intro v3600 h3601
                        refine q_callVv hE (M' := mX12_needsSign) (as := [_]) dX12_readAlp_60 lk12_257 inX12_needsSign seX12_needsSign myX12_needsSign (by decide) ⟨by decide, by decide⟩ rfl (kR15 hS3585.1 ta0) (Nat.le_of_ble_eq_true rfl) rfl rfl (by decide) (by decide) (k_X12_needsSign hS3585.1 ta0) ?_
                        rintro cn' K' N' I3602 R3603 L3604 ⟨rfl, rfl, rfl, rfl, g3605, w3607, -⟩
                        have hS3608 := hS3585.tr g3605 (by decide +kernel) (by decide +kernel)
                        have c3609 : I3602 a1 0 = v29 := (g3605.cell ta1 (by decide +kernel)).trans c3588
                        have c3610 : I3602 a1 1 = v33 := (g3605.cell ta1 (by decide +kernel)).trans c3589
                        have hO3611 : FrO 14 a1 T I0 I3602 := hO3593.st g3605 (by decide +kernel)
                        have ov3612 := w3607.over (by rw [c3590]; omega)
                        obtain ⟨v3613, c3614⟩ : ∃ v, I3602 a0 9 = v := ⟨_, rfl⟩
                        have b3615 := iv15_9 hS3608.1 ta0 c3614
                        obtain ⟨v3616, c3617⟩ : ∃ v, I3602 a0 13 = v := ⟨_, rfl⟩
                        obtain ⟨v3618, c3619⟩ : ∃ v, I3602 a0 14 = v := ⟨_, rfl⟩
                        (try rw [c3614] at ov3612)
                        (try rw [c3617] at ov3612)
                        (try rw [c3619] at ov3612)
                        (try rw [c3590] at ov3612)
                        (try rw [c3591] at ov3612)
                        (try rw [c3592] at ov3612)
                        refine tr_aload_n dX12_readAlp_63 rfl ?_
                        refine tr_getR dX12_readAlp_64 fl12_188 (kR15 hS3608.1 ta0) d2 ?_
                        refine tr_getR dX12_readAlp_67 fl12_260 (kR14 hS3608.1 ta1) d3439 ?_
                        refine tr_iload_n dX12_readAlp_70 rfl ?_
                        refine tr_aload_n dX12_readAlp_71 rfl ?_
                        refine q_iconst dX12_readAlp_72 (by decide) ?_
                        intro v3620 h3621
                        refine q_bipush dX12_readAlp_73 (by decide +kernel) ?_
                        intro v3622 h3623
                        refine q_callVi hE (M' := mX12_readWhole) (as := [_, _]) dX12_readAlp_75 lk12_161 inX12_readWhole seX12_readWhole myX12_readWhole (by decide) ⟨by decide, by decide⟩ rfl (kR15 hS3608.1 ta0) (Nat.le_of_ble_eq_true rfl) rfl rfl (by decide) (by decide) (k_X12_readWhole hS3608.1 ta0) ?_
                        rintro v3628 cn' K' N' I3624 R3625 L3626 ⟨rfl, rfl, rfl, rfl, g3627, p3629, w3630, -⟩
                        have hS3631 := hS3608.tr g3627 (by decide +kernel) (by decide +kernel)
                        have c3632 : I3624 a1 0 = v29 := (g3627.cell ta1 (by decide +kernel)).trans c3609
                        have c3633 : I3624 a1 1 = v33 := (g3627.cell ta1 (by decide +kernel)).trans c3610
                        have b3634 : 0 ≤ v3628.toInt ∧ v3628.toInt ≤ 99 := by omega
                        clear p3629
                        have hO3635 : FrO 14 a1 T I0 I3624 := hO3611.st g3627 (by decide +kernel)
                        have ov3636 := w3630.over (by rw [c3614]; omega)
                        obtain ⟨v3637, c3638⟩ : ∃ v, I3624 a0 9 = v := ⟨_, rfl⟩
                        have b3639 := iv15_9 hS3631.1 ta0 c3638
                        obtain ⟨v3640, c3641⟩ : ∃ v, I3624 a0 13 = v := ⟨_, rfl⟩
                        obtain ⟨v3642, c3643⟩ : ∃ v, I3624 a0 14 = v := ⟨_, rfl⟩
                        (try rw [c3638] at ov3636)
                        (try rw [c3641] at ov3636)
                        (try rw [c3643] at ov3636)
                        (try rw [c3614] at ov3636)
                        (try rw [c3617] at ov3636)
                        (try rw [c3619] at ov3636)
                        refine q_iast dX12_readAlp_78 (kR53 hS3631.1 ta3438) (ti_in (nR53 hS3631.1 ta3438) (by omega) (by omega)) hS3631 ta3438 (iokF rfl) rfl (by rfl) ?_
                        intro I3644 hS3645 e3647 f3646
                        have c3648 : I3644 a1 0 = v29 := (f3646 _ _ (fun q => by have z := ta1; rw [q.1, ta3438] at z; exact absurd z (by decide))).trans c3632
                        have c3649 : I3644 a1 1 = v33 := (f3646 _ _ (fun q => by have z := ta1; rw [q.1, ta3438] at z; exact absurd z (by decide))).trans c3633
                        have c3650 : I3644 a0 9 = v3637 := (f3646 _ _ (fun q => by have z := ta0; rw [q.1, ta3438] at z; exact absurd z (by decide))).trans c3638
                        have c3651 : I3644 a0 13 = v3640 := (f3646 _ _ (fun q => by have z := ta0; rw [q.1, ta3438] at z; exact absurd z (by decide))).trans c3641
                        have c3652 : I3644 a0 14 = v3642 := (f3646 _ _ (fun q => by have z := ta0; rw [q.1, ta3438] at z; exact absurd z (by decide))).trans c3643
                        have hO3653 : FrO 14 a1 T I0 I3644 := hO3635.put f3646 ta3438 (Or.inl (by decide))
                        refine q_iincE dX12_readAlp_79 rfl (by decide) (by decide) (by intros; omega) ?_
                        intro v3654 h3655
                        refine tr_goto 48 dX12_readAlp_82 (by decide) ?_
                        refine tr_iload_n dX12_readAlp_48 rfl ?_
                        refine q_iconst dX12_readAlp_49 (by decide) ?_
                        intro v3656 h3657
                        refine q_icmp_ge 85 dX12_readAlp_50 (by decide) (fun h3658 => ?_) (fun h3658 => ?_)
                        · skip
                          exfalso; omega
                        · skip
                          refine tr_iload_n dX12_readAlp_53 rfl ?_
                          refine q_if_le 63 dX12_readAlp_54 (by decide) (fun h3659 => ?_) (fun h3659 => ?_)
                          · skip
                            exfalso; omega
                          · skip
                            refine tr_aload_n dX12_readAlp_57 rfl ?_
                            refine q_bipush dX12_readAlp_58 (by decide +kernel) ?_
                            intro v3660 h3661
                            refine q_callVv hE (M' := mX12_needsSign) (as := [_]) dX12_readAlp_60 lk12_257 inX12_needsSign seX12_needsSign myX12_needsSign (by decide) ⟨by decide, by decide⟩ rfl (kR15 hS3645.1 ta0) (Nat.le_of_ble_eq_true rfl) rfl rfl (by decide) (by decide) (k_X12_needsSign hS3645.1 ta0) ?_
                            rintro cn' K' N' I3662 R3663 L3664 ⟨rfl, rfl, rfl, rfl, g3665, w3667, -⟩
                            have hS3668 := hS3645.tr g3665 (by decide +kernel) (by decide +kernel)
                            have c3669 : I3662 a1 0 = v29 := (g3665.cell ta1 (by decide +kernel)).trans c3648
                            have c3670 : I3662 a1 1 = v33 := (g3665.cell ta1 (by decide +kernel)).trans c3649
                            have hO3671 : FrO 14 a1 T I0 I3662 := hO3653.st g3665 (by decide +kernel)
                            have ov3672 := w3667.over (by rw [c3650]; omega)
                            obtain ⟨v3673, c3674⟩ : ∃ v, I3662 a0 9 = v := ⟨_, rfl⟩
                            have b3675 := iv15_9 hS3668.1 ta0 c3674
                            obtain ⟨v3676, c3677⟩ : ∃ v, I3662 a0 13 = v := ⟨_, rfl⟩
                            obtain ⟨v3678, c3679⟩ : ∃ v, I3662 a0 14 = v := ⟨_, rfl⟩
                            (try rw [c3674] at ov3672)
                            (try rw [c3677] at ov3672)
                            (try rw [c3679] at ov3672)
                            (try rw [c3650] at ov3672)
                            (try rw [c3651] at ov3672)
                            (try rw [c3652] at ov3672)
                            refine tr_aload_n dX12_readAlp_63 rfl ?_
                            refine tr_getR dX12_readAlp_64 fl12_188 (kR15 hS3668.1 ta0) d2 ?_
                            refine tr_getR dX12_readAlp_67 fl12_260 (kR14 hS3668.1 ta1) d3439 ?_
                            refine tr_iload_n dX12_readAlp_70 rfl ?_
                            refine tr_aload_n dX12_readAlp_71 rfl ?_
                            refine q_iconst dX12_readAlp_72 (by decide) ?_
                            intro v3680 h3681
                            refine q_bipush dX12_readAlp_73 (by decide +kernel) ?_
                            intro v3682 h3683
                            refine q_callVi hE (M' := mX12_readWhole) (as := [_, _]) dX12_readAlp_75 lk12_161 inX12_readWhole seX12_readWhole myX12_readWhole (by decide) ⟨by decide, by decide⟩ rfl (kR15 hS3668.1 ta0) (Nat.le_of_ble_eq_true rfl) rfl rfl (by decide) (by decide) (k_X12_readWhole hS3668.1 ta0) ?_
                            rintro v3688 cn' K' N' I3684 R3685 L3686 ⟨rfl, rfl, rfl, rfl, g3687, p3689, w3690, -⟩
                            have hS3691 := hS3668.tr g3687 (by decide +kernel) (by decide +kernel)
                            have c3692 : I3684 a1 0 = v29 := (g3687.cell ta1 (by decide +kernel)).trans c3669
                            have c3693 : I3684 a1 1 = v33 := (g3687.cell ta1 (by decide +kernel)).trans c3670
                            have b3694 : 0 ≤ v3688.toInt ∧ v3688.toInt ≤ 99 := by omega
                            clear p3689
                            have hO3695 : FrO 14 a1 T I0 I3684 := hO3671.st g3687 (by decide +kernel)
                            have ov3696 := w3690.over (by rw [c3674]; omega)
                            obtain ⟨v3697, c3698⟩ : ∃ v, I3684 a0 9 = v := ⟨_, rfl⟩
                            have b3699 := iv15_9 hS3691.1 ta0 c3698
                            obtain ⟨v3700, c3701⟩ : ∃ v, I3684 a0 13 = v := ⟨_, rfl⟩
                            obtain ⟨v3702, c3703⟩ : ∃ v, I3684 a0 14 = v := ⟨_, rfl⟩
                            (try rw [c3698] at ov3696)
                            (try rw [c3701] at ov3696)
                            (try rw [c3703] at ov3696)
                            (try rw [c3674] at ov3696)
                            (try rw [c3677] at ov3696)
                            (try rw [c3679] at ov3696)
                            refine q_iast dX12_readAlp_78 (kR53 hS3691.1 ta3438) (ti_in (nR53 hS3691.1 ta3438) (by omega) (by omega)) hS3691 ta3438 (iokF rfl) rfl (by rfl) ?_
                            intro I3704 hS3705 e3707 f3706
                            have c3708 : I3704 a1 0 = v29 := (f3706 _ _ (fun q => by have z := ta1; rw [q.1, ta3438] at z; exact absurd z (by decide))).trans c3692
                            have c3709 : I3704 a1 1 = v33 := (f3706 _ _ (fun q => by have z := ta1; rw [q.1, ta3438] at z; exact absurd z (by decide))).trans c3693
                            have c3710 : I3704 a0 9 = v3697 := (f3706 _ _ (fun q => by have z := ta0; rw [q.1, ta3438] at z; exact absurd z (by decide))).trans c3698
                            have c3711 : I3704 a0 13 = v3700 := (f3706 _ _ (fun q => by have z := ta0; rw [q.1, ta3438] at z; exact absurd z (by decide))).trans c3701
                            have c3712 : I3704 a0 14 = v3702 := (f3706 _ _ (fun q => by have z := ta0; rw [q.1, ta3438] at z; exact absurd z (by decide))).trans c3703
                            have hO3713 : FrO 14 a1 T I0 I3704 := hO3695.put f3706 ta3438 (Or.inl (by decide))
                            refine q_iincE dX12_readAlp_79 rfl (by decide) (by decide) (by intros; omega) ?_
                            intro v3714 h3715
                            refine tr_goto 48 dX12_readAlp_82 (by decide) ?_
                            refine tr_iload_n dX12_readAlp_48 rfl ?_
                            refine q_iconst dX12_readAlp_49 (by decide) ?_
                            intro v3716 h3717
                            refine q_icmp_ge 85 dX12_readAlp_50 (by decide) (fun h3718 => ?_) (fun h3718 => ?_)
                            · skip
                              refine tr_aload_n dX12_readAlp_85 rfl ?_
                              refine q_getI dX12_readAlp_86 fl12_99 (kR15 hS3705.1 ta0) c3710 ?_
                              refine q_iconst dX12_readAlp_89 (by decide) ?_
                              intro v3719 h3720
                              refine q_icmp_ne 94 dX12_readAlp_90 (by decide) (fun h3721 => ?_) (fun h3721 => ?_)
                              · skip
                                exfalso; omega
                              · skip
                                have eF := hF.eq
                                have eP := hP.eq
                                obtain ⟨v3722, c3723⟩ : ∃ v, I3704 a0 10 = v := ⟨_, rfl⟩
                                have b3724 := iv15_10 hS3705.1 ta0 c3723
                                obtain ⟨v3725, c3726⟩ : ∃ v, I3704 a0 11 = v := ⟨_, rfl⟩
                                obtain ⟨y3727, c3728⟩ : ∃ v, L3686 a0 15 = v := ⟨_, rfl⟩
                                obtain ⟨v3729, c3730⟩ : ∃ v, I3704 a0 12 = v := ⟨_, rfl⟩
                                obtain ⟨v3731, c3732⟩ : ∃ v, I3704 a0 8 = v := ⟨_, rfl⟩
                                have b3733 := iv15_8 hS3705.1 ta0 c3732
                                exact tr_vret hZ dX12_readAlp_93 rfl (by decide) (by decide) ⟨rfl, rfl, rfl, rfl, rfl, hS3705, (fun dr hd => (Option.some.inj (d2.symm.trans hd)) ▸ hO3713), (Or.inr (⟨(by (try rw [w107]); first | done | with_reducible assumption | omega), (by (try rw [w107]); (try rw [c3710]); first | done | with_reducible assumption | omega), (by (try rw [w107]); (try rw [c3711]); first | done | with_reducible assumption | omega), (by (try rw [w107]); (try rw [c3712]); first | done | with_reducible assumption | omega), trivial⟩)), trivial⟩
                            · skip
                              exfalso; omega
          · skip
            exfalso; omega
      · skip
        obtain ⟨v3734, c3735⟩ : ∃ v, I191 a0 9 = v := ⟨_, rfl⟩
        have b3736 := iv15_9 hS199.1 ta0 c3735
        rw [c3735] at p227
        obtain ⟨v3737, c3738⟩ : ∃ v, I191 a0 13 = v := ⟨_, rfl⟩
        rw [c3738] at p228
        obtain ⟨v3739, c3740⟩ : ∃ v, I191 a0 14 = v := ⟨_, rfl⟩
        rw [c3740] at p229
        replace hF := hF.neg (by omega)
        replace hP := hP.neg (by omega)
        replace hF := hF.pos (by omega)
        replace hP := hP.pos (by omega)
        refine tr_istore_n dX12_readAlp_39 (by decide) (by decide) ?_
        refine tr_aload_n dX12_readAlp_40 rfl ?_
        refine tr_ldcS dX12_readAlp_41 ld12_255 ?_
        refine q_callVv hE (M' := mX12_needs) (as := [_]) dX12_readAlp_43 lk12_157 inX12_needs seX12_needs myX12_needs (by decide) ⟨by decide, by decide⟩ rfl (kR15 hS199.1 ta0) (Nat.le_of_ble_eq_true rfl) rfl rfl (by decide) (by decide) (k_X12_needs hS199.1 ta0 (by decide)) ?_
        rintro cn' K' N' I3741 R3742 L3743 ⟨rfl, rfl, rfl, rfl, g3744, w3746, -⟩
        have hS3747 := hS199.tr g3744 (by decide +kernel) (by decide +kernel)
        have c3748 : I3741 a1 0 = v29 := (g3744.cell ta1 (by decide +kernel)).trans c200
        have c3749 : I3741 a1 1 = v33 := (g3744.cell ta1 (by decide +kernel)).trans c201
        have hO3750 : FrO 14 a1 T I0 I3741 := hO202.st g3744 (by decide +kernel)
        have ov3751 := w3746.over (by rw [c3735]; omega)
        obtain ⟨v3752, c3753⟩ : ∃ v, I3741 a0 9 = v := ⟨_, rfl⟩
        have b3754 := iv15_9 hS3747.1 ta0 c3753
        obtain ⟨v3755, c3756⟩ : ∃ v, I3741 a0 13 = v := ⟨_, rfl⟩
        obtain ⟨v3757, c3758⟩ : ∃ v, I3741 a0 14 = v := ⟨_, rfl⟩
        (try rw [c3753] at ov3751)
        (try rw [c3756] at ov3751)
        (try rw [c3758] at ov3751)
        (try rw [c3735] at ov3751)
        (try rw [c3738] at ov3751)
        (try rw [c3740] at ov3751)
        refine q_iconst dX12_readAlp_46 (by decide) ?_
        intro v3759 h3760
        refine tr_istore_n dX12_readAlp_47 (by decide) (by decide) ?_
        refine tr_iload_n dX12_readAlp_48 rfl ?_
        refine q_iconst dX12_readAlp_49 (by decide) ?_
        intro v3761 h3762
        refine q_icmp_ge 85 dX12_readAlp_50 (by decide) (fun h3763 => ?_) (fun h3763 => ?_)
        · skip
          exfalso; omega
        · skip
          refine tr_iload_n dX12_readAlp_53 rfl ?_
          refine q_if_le 63 dX12_readAlp_54 (by decide) (fun h3764 => ?_) (fun h3764 => ?_)
          · skip
            refine tr_aload_n dX12_readAlp_63 rfl ?_
            refine tr_getR dX12_readAlp_64 fl12_188 (kR15 hS3747.1 ta0) d2 ?_
            obtain ⟨a3765, d3766, ta3765⟩ := rf14_10 hW0 ta1
            refine tr_getR dX12_readAlp_67 fl12_260 (kR14 hS3747.1 ta1) d3766 ?_
            refine tr_iload_n dX12_readAlp_70 rfl ?_
            refine tr_aload_n dX12_readAlp_71 rfl ?_
            refine q_iconst dX12_readAlp_72 (by decide) ?_
            intro v3767 h3768
            refine q_bipush dX12_readAlp_73 (by decide +kernel) ?_
            intro v3769 h3770
            refine q_callVi hE (M' := mX12_readWhole) (as := [_, _]) dX12_readAlp_75 lk12_161 inX12_readWhole seX12_readWhole myX12_readWhole (by decide) ⟨by decide, by decide⟩ rfl (kR15 hS3747.1 ta0) (Nat.le_of_ble_eq_true rfl) rfl rfl (by decide) (by decide) (k_X12_readWhole hS3747.1 ta0) ?_
            rintro v3775 cn' K' N' I3771 R3772 L3773 ⟨rfl, rfl, rfl, rfl, g3774, p3776, w3777, -⟩
            have hS3778 := hS3747.tr g3774 (by decide +kernel) (by decide +kernel)
            have c3779 : I3771 a1 0 = v29 := (g3774.cell ta1 (by decide +kernel)).trans c3748
            have c3780 : I3771 a1 1 = v33 := (g3774.cell ta1 (by decide +kernel)).trans c3749
            have b3781 : 0 ≤ v3775.toInt ∧ v3775.toInt ≤ 99 := by omega
            clear p3776
            have hO3782 : FrO 14 a1 T I0 I3771 := hO3750.st g3774 (by decide +kernel)
            have ov3783 := w3777.over (by rw [c3753]; omega)
            obtain ⟨v3784, c3785⟩ : ∃ v, I3771 a0 9 = v := ⟨_, rfl⟩
            have b3786 := iv15_9 hS3778.1 ta0 c3785
            obtain ⟨v3787, c3788⟩ : ∃ v, I3771 a0 13 = v := ⟨_, rfl⟩
            obtain ⟨v3789, c3790⟩ : ∃ v, I3771 a0 14 = v := ⟨_, rfl⟩
            (try rw [c3785] at ov3783)
            (try rw [c3788] at ov3783)
            (try rw [c3790] at ov3783)
            (try rw [c3753] at ov3783)
            (try rw [c3756] at ov3783)
            (try rw [c3758] at ov3783)
            refine q_iast dX12_readAlp_78 (kR53 hS3778.1 ta3765) (ti_in (nR53 hS3778.1 ta3765) (by omega) (by omega)) hS3778 ta3765 (iokF rfl) rfl (by rfl) ?_
            intro I3791 hS3792 e3794 f3793
            have c3795 : I3791 a1 0 = v29 := (f3793 _ _ (fun q => by have z := ta1; rw [q.1, ta3765] at z; exact absurd z (by decide))).trans c3779
            have c3796 : I3791 a1 1 = v33 := (f3793 _ _ (fun q => by have z := ta1; rw [q.1, ta3765] at z; exact absurd z (by decide))).trans c3780
            have c3797 : I3791 a0 9 = v3784 := (f3793 _ _ (fun q => by have z := ta0; rw [q.1, ta3765] at z; exact absurd z (by decide))).trans c3785
            have c3798 : I3791 a0 13 = v3787 := (f3793 _ _ (fun q => by have z := ta0; rw [q.1, ta3765] at z; exact absurd z (by decide))).trans c3788
            have c3799 : I3791 a0 14 = v3789 := (f3793 _ _ (fun q => by have z := ta0; rw [q.1, ta3765] at z; exact absurd z (by decide))).trans c3790
            have hO3800 : FrO 14 a1 T I0 I3791 := hO3782.put f3793 ta3765 (Or.inl (by decide))
            refine q_iincE dX12_readAlp_79 rfl (by decide) (by decide) (by intros; omega) ?_
            intro v3801 h3802
            refine tr_goto 48 dX12_readAlp_82 (by decide) ?_
            refine tr_iload_n dX12_readAlp_48 rfl ?_
            refine q_iconst dX12_readAlp_49 (by decide) ?_
            intro v3803 h3804
            refine q_icmp_ge 85 dX12_readAlp_50 (by decide) (fun h3805 => ?_) (fun h3805 => ?_)
            · skip
              exfalso; omega
            · skip
              refine tr_iload_n dX12_readAlp_53 rfl ?_
              refine q_if_le 63 dX12_readAlp_54 (by decide) (fun h3806 => ?_) (fun h3806 => ?_)
              · skip
                exfalso; omega
              · skip
                refine tr_aload_n dX12_readAlp_57 rfl ?_
                refine q_bipush dX12_readAlp_58 (by decide +kernel) ?_
                intro v3807 h3808
                refine q_callVv hE (M' := mX12_needsSign) (as := [_]) dX12_readAlp_60 lk12_257 inX12_needsSign seX12_needsSign myX12_needsSign (by decide) ⟨by decide, by decide⟩ rfl (kR15 hS3792.1 ta0) (Nat.le_of_ble_eq_true rfl) rfl rfl (by decide) (by decide) (k_X12_needsSign hS3792.1 ta0) ?_
                rintro cn' K' N' I3809 R3810 L3811 ⟨rfl, rfl, rfl, rfl, g3812, w3814, -⟩
                have hS3815 := hS3792.tr g3812 (by decide +kernel) (by decide +kernel)
                have c3816 : I3809 a1 0 = v29 := (g3812.cell ta1 (by decide +kernel)).trans c3795
                have c3817 : I3809 a1 1 = v33 := (g3812.cell ta1 (by decide +kernel)).trans c3796
                have hO3818 : FrO 14 a1 T I0 I3809 := hO3800.st g3812 (by decide +kernel)
                have ov3819 := w3814.over (by rw [c3797]; omega)
                obtain ⟨v3820, c3821⟩ : ∃ v, I3809 a0 9 = v := ⟨_, rfl⟩
                have b3822 := iv15_9 hS3815.1 ta0 c3821
                obtain ⟨v3823, c3824⟩ : ∃ v, I3809 a0 13 = v := ⟨_, rfl⟩
                obtain ⟨v3825, c3826⟩ : ∃ v, I3809 a0 14 = v := ⟨_, rfl⟩
                (try rw [c3821] at ov3819)
                (try rw [c3824] at ov3819)
                (try rw [c3826] at ov3819)
                (try rw [c3797] at ov3819)
                (try rw [c3798] at ov3819)
                (try rw [c3799] at ov3819)
                refine tr_aload_n dX12_readAlp_63 rfl ?_
                refine tr_getR dX12_readAlp_64 fl12_188 (kR15 hS3815.1 ta0) d2 ?_
                refine tr_getR dX12_readAlp_67 fl12_260 (kR14 hS3815.1 ta1) d3766 ?_
                refine tr_iload_n dX12_readAlp_70 rfl ?_
                refine tr_aload_n dX12_readAlp_71 rfl ?_
                refine q_iconst dX12_readAlp_72 (by decide) ?_
                intro v3827 h3828
                refine q_bipush dX12_readAlp_73 (by decide +kernel) ?_
                intro v3829 h3830
                refine q_callVi hE (M' := mX12_readWhole) (as := [_, _]) dX12_readAlp_75 lk12_161 inX12_readWhole seX12_readWhole myX12_readWhole (by decide) ⟨by decide, by decide⟩ rfl (kR15 hS3815.1 ta0) (Nat.le_of_ble_eq_true rfl) rfl rfl (by decide) (by decide) (k_X12_readWhole hS3815.1 ta0) ?_
                rintro v3835 cn' K' N' I3831 R3832 L3833 ⟨rfl, rfl, rfl, rfl, g3834, p3836, w3837, -⟩
                have hS3838 := hS3815.tr g3834 (by decide +kernel) (by decide +kernel)
                have c3839 : I3831 a1 0 = v29 := (g3834.cell ta1 (by decide +kernel)).trans c3816
                have c3840 : I3831 a1 1 = v33 := (g3834.cell ta1 (by decide +kernel)).trans c3817
                have b3841 : 0 ≤ v3835.toInt ∧ v3835.toInt ≤ 99 := by omega
                clear p3836
                have hO3842 : FrO 14 a1 T I0 I3831 := hO3818.st g3834 (by decide +kernel)
                have ov3843 := w3837.over (by rw [c3821]; omega)
                obtain ⟨v3844, c3845⟩ : ∃ v, I3831 a0 9 = v := ⟨_, rfl⟩
                have b3846 := iv15_9 hS3838.1 ta0 c3845
                obtain ⟨v3847, c3848⟩ : ∃ v, I3831 a0 13 = v := ⟨_, rfl⟩
                obtain ⟨v3849, c3850⟩ : ∃ v, I3831 a0 14 = v := ⟨_, rfl⟩
                (try rw [c3845] at ov3843)
                (try rw [c3848] at ov3843)
                (try rw [c3850] at ov3843)
                (try rw [c3821] at ov3843)
                (try rw [c3824] at ov3843)
                (try rw [c3826] at ov3843)
                refine q_iast dX12_readAlp_78 (kR53 hS3838.1 ta3765) (ti_in (nR53 hS3838.1 ta3765) (by omega) (by omega)) hS3838 ta3765 (iokF rfl) rfl (by rfl) ?_
                intro I3851 hS3852 e3854 f3853
                have c3855 : I3851 a1 0 = v29 := (f3853 _ _ (fun q => by have z := ta1; rw [q.1, ta3765] at z; exact absurd z (by decide))).trans c3839
                have c3856 : I3851 a1 1 = v33 := (f3853 _ _ (fun q => by have z := ta1; rw [q.1, ta3765] at z; exact absurd z (by decide))).trans c3840
                have c3857 : I3851 a0 9 = v3844 := (f3853 _ _ (fun q => by have z := ta0; rw [q.1, ta3765] at z; exact absurd z (by decide))).trans c3845
                have c3858 : I3851 a0 13 = v3847 := (f3853 _ _ (fun q => by have z := ta0; rw [q.1, ta3765] at z; exact absurd z (by decide))).trans c3848
                have c3859 : I3851 a0 14 = v3849 := (f3853 _ _ (fun q => by have z := ta0; rw [q.1, ta3765] at z; exact absurd z (by decide))).trans c3850
                have hO3860 : FrO 14 a1 T I0 I3851 := hO3842.put f3853 ta3765 (Or.inl (by decide))
                refine q_iincE dX12_readAlp_79 rfl (by decide) (by decide) (by intros; omega) ?_
                intro v3861 h3862
                refine tr_goto 48 dX12_readAlp_82 (by decide) ?_
                refine tr_iload_n dX12_readAlp_48 rfl ?_
                refine q_iconst dX12_readAlp_49 (by decide) ?_
                intro v3863 h3864
                refine q_icmp_ge 85 dX12_readAlp_50 (by decide) (fun h3865 => ?_) (fun h3865 => ?_)
                · skip
                  exfalso; omega
                · skip
                  refine tr_iload_n dX12_readAlp_53 rfl ?_
                  refine q_if_le 63 dX12_readAlp_54 (by decide) (fun h3866 => ?_) (fun h3866 => ?_)
                  · skip
                    exfalso; omega
                  · skip
                    refine tr_aload_n dX12_readAlp_57 rfl ?_
                    refine q_bipush dX12_readAlp_58 (by decide +kernel) ?_
                    intro v3867 h3868
                    refine q_callVv hE (M' := mX12_needsSign) (as := [_]) dX12_readAlp_60 lk12_257 inX12_needsSign seX12_needsSign myX12_needsSign (by decide) ⟨by decide, by decide⟩ rfl (kR15 hS3852.1 ta0) (Nat.le_of_ble_eq_true rfl) rfl rfl (by decide) (by decide) (k_X12_needsSign hS3852.1 ta0) ?_
                    rintro cn' K' N' I3869 R3870 L3871 ⟨rfl, rfl, rfl, rfl, g3872, w3874, -⟩
                    have hS3875 := hS3852.tr g3872 (by decide +kernel) (by decide +kernel)
                    have c3876 : I3869 a1 0 = v29 := (g3872.cell ta1 (by decide +kernel)).trans c3855
                    have c3877 : I3869 a1 1 = v33 := (g3872.cell ta1 (by decide +kernel)).trans c3856
                    have hO3878 : FrO 14 a1 T I0 I3869 := hO3860.st g3872 (by decide +kernel)
                    have ov3879 := w3874.over (by rw [c3857]; omega)
                    obtain ⟨v3880, c3881⟩ : ∃ v, I3869 a0 9 = v := ⟨_, rfl⟩
                    have b3882 := iv15_9 hS3875.1 ta0 c3881
                    obtain ⟨v3883, c3884⟩ : ∃ v, I3869 a0 13 = v := ⟨_, rfl⟩
                    obtain ⟨v3885, c3886⟩ : ∃ v, I3869 a0 14 = v := ⟨_, rfl⟩
                    (try rw [c3881] at ov3879)
                    (try rw [c3884] at ov3879)
                    (try rw [c3886] at ov3879)
                    (try rw [c3857] at ov3879)
                    (try rw [c3858] at ov3879)
                    (try rw [c3859] at ov3879)
                    refine tr_aload_n dX12_readAlp_63 rfl ?_
                    refine tr_getR dX12_readAlp_64 fl12_188 (kR15 hS3875.1 ta0) d2 ?_
                    refine tr_getR dX12_readAlp_67 fl12_260 (kR14 hS3875.1 ta1) d3766 ?_
                    refine tr_iload_n dX12_readAlp_70 rfl ?_
                    refine tr_aload_n dX12_readAlp_71 rfl ?_
                    refine q_iconst dX12_readAlp_72 (by decide) ?_
                    intro v3887 h3888
                    refine q_bipush dX12_readAlp_73 (by decide +kernel) ?_
                    intro v3889 h3890
                    refine q_callVi hE (M' := mX12_readWhole) (as := [_, _]) dX12_readAlp_75 lk12_161 inX12_readWhole seX12_readWhole myX12_readWhole (by decide) ⟨by decide, by decide⟩ rfl (kR15 hS3875.1 ta0) (Nat.le_of_ble_eq_true rfl) rfl rfl (by decide) (by decide) (k_X12_readWhole hS3875.1 ta0) ?_
                    rintro v3895 cn' K' N' I3891 R3892 L3893 ⟨rfl, rfl, rfl, rfl, g3894, p3896, w3897, -⟩
                    have hS3898 := hS3875.tr g3894 (by decide +kernel) (by decide +kernel)
                    have c3899 : I3891 a1 0 = v29 := (g3894.cell ta1 (by decide +kernel)).trans c3876
                    have c3900 : I3891 a1 1 = v33 := (g3894.cell ta1 (by decide +kernel)).trans c3877
                    have b3901 : 0 ≤ v3895.toInt ∧ v3895.toInt ≤ 99 := by omega
                    clear p3896
                    have hO3902 : FrO 14 a1 T I0 I3891 := hO3878.st g3894 (by decide +kernel)
                    have ov3903 := w3897.over (by rw [c3881]; omega)
                    obtain ⟨v3904, c3905⟩ : ∃ v, I3891 a0 9 = v := ⟨_, rfl⟩
                    have b3906 := iv15_9 hS3898.1 ta0 c3905
                    obtain ⟨v3907, c3908⟩ : ∃ v, I3891 a0 13 = v := ⟨_, rfl⟩
                    obtain ⟨v3909, c3910⟩ : ∃ v, I3891 a0 14 = v := ⟨_, rfl⟩
                    (try rw [c3905] at ov3903)
                    (try rw [c3908] at ov3903)
                    (try rw [c3910] at ov3903)
                    (try rw [c3881] at ov3903)
                    (try rw [c3884] at ov3903)
                    (try rw [c3886] at ov3903)
                    refine q_iast dX12_readAlp_78 (kR53 hS3898.1 ta3765) (ti_in (nR53 hS3898.1 ta3765) (by omega) (by omega)) hS3898 ta3765 (iokF rfl) rfl (by rfl) ?_
                    intro I3911 hS3912 e3914 f3913
                    have c3915 : I3911 a1 0 = v29 := (f3913 _ _ (fun q => by have z := ta1; rw [q.1, ta3765] at z; exact absurd z (by decide))).trans c3899
                    have c3916 : I3911 a1 1 = v33 := (f3913 _ _ (fun q => by have z := ta1; rw [q.1, ta3765] at z; exact absurd z (by decide))).trans c3900
                    have c3917 : I3911 a0 9 = v3904 := (f3913 _ _ (fun q => by have z := ta0; rw [q.1, ta3765] at z; exact absurd z (by decide))).trans c3905
                    have c3918 : I3911 a0 13 = v3907 := (f3913 _ _ (fun q => by have z := ta0; rw [q.1, ta3765] at z; exact absurd z (by decide))).trans c3908
                    have c3919 : I3911 a0 14 = v3909 := (f3913 _ _ (fun q => by have z := ta0; rw [q.1, ta3765] at z; exact absurd z (by decide))).trans c3910
                    have hO3920 : FrO 14 a1 T I0 I3911 := hO3902.put f3913 ta3765 (Or.inl (by decide))
                    refine q_iincE dX12_readAlp_79 rfl (by decide) (by decide) (by intros; omega) ?_
                    intro v3921 h3922
                    refine tr_goto 48 dX12_readAlp_82 (by decide) ?_
                    refine tr_iload_n dX12_readAlp_48 rfl ?_
                    refine q_iconst dX12_readAlp_49 (by decide) ?_
                    intro v3923 h3924
                    refine q_icmp_ge 85 dX12_readAlp_50 (by decide) (fun h3925 => ?_) (fun h3925 => ?_)
                    · skip
                      exfalso; omega
                    · skip
                      refine tr_iload_n dX12_readAlp_53 rfl ?_
                      refine q_if_le 63 dX12_readAlp_54 (by decide) (fun h3926 => ?_) (fun h3926 => ?_)
                      · skip
                        exfalso; omega
                      · skip
                        refine tr_aload_n dX12_readAlp_57 rfl ?_
                        refine q_bipush dX12_readAlp_58 (by decide +kernel) ?_
                        intro v3927 h3928
                        refine q_callVv hE (M' := mX12_needsSign) (as := [_]) dX12_readAlp_60 lk12_257 inX12_needsSign seX12_needsSign myX12_needsSign (by decide) ⟨by decide, by decide⟩ rfl (kR15 hS3912.1 ta0) (Nat.le_of_ble_eq_true rfl) rfl rfl (by decide) (by decide) (k_X12_needsSign hS3912.1 ta0) ?_
                        rintro cn' K' N' I3929 R3930 L3931 ⟨rfl, rfl, rfl, rfl, g3932, w3934, -⟩
                        have hS3935 := hS3912.tr g3932 (by decide +kernel) (by decide +kernel)
                        have c3936 : I3929 a1 0 = v29 := (g3932.cell ta1 (by decide +kernel)).trans c3915
                        have c3937 : I3929 a1 1 = v33 := (g3932.cell ta1 (by decide +kernel)).trans c3916
                        have hO3938 : FrO 14 a1 T I0 I3929 := hO3920.st g3932 (by decide +kernel)
                        have ov3939 := w3934.over (by rw [c3917]; omega)
                        obtain ⟨v3940, c3941⟩ : ∃ v, I3929 a0 9 = v := ⟨_, rfl⟩
                        have b3942 := iv15_9 hS3935.1 ta0 c3941
                        obtain ⟨v3943, c3944⟩ : ∃ v, I3929 a0 13 = v := ⟨_, rfl⟩
                        obtain ⟨v3945, c3946⟩ : ∃ v, I3929 a0 14 = v := ⟨_, rfl⟩
                        (try rw [c3941] at ov3939)
                        (try rw [c3944] at ov3939)
                        (try rw [c3946] at ov3939)
                        (try rw [c3917] at ov3939)
                        (try rw [c3918] at ov3939)
                        (try rw [c3919] at ov3939)
                        refine tr_aload_n dX12_readAlp_63 rfl ?_
                        refine tr_getR dX12_readAlp_64 fl12_188 (kR15 hS3935.1 ta0) d2 ?_
                        refine tr_getR dX12_readAlp_67 fl12_260 (kR14 hS3935.1 ta1) d3766 ?_
                        refine tr_iload_n dX12_readAlp_70 rfl ?_
                        refine tr_aload_n dX12_readAlp_71 rfl ?_
                        refine q_iconst dX12_readAlp_72 (by decide) ?_
                        intro v3947 h3948
                        refine q_bipush dX12_readAlp_73 (by decide +kernel) ?_
                        intro v3949 h3950
                        refine q_callVi hE (M' := mX12_readWhole) (as := [_, _]) dX12_readAlp_75 lk12_161 inX12_readWhole seX12_readWhole myX12_readWhole (by decide) ⟨by decide, by decide⟩ rfl (kR15 hS3935.1 ta0) (Nat.le_of_ble_eq_true rfl) rfl rfl (by decide) (by decide) (k_X12_readWhole hS3935.1 ta0) ?_
                        rintro v3955 cn' K' N' I3951 R3952 L3953 ⟨rfl, rfl, rfl, rfl, g3954, p3956, w3957, -⟩
                        have hS3958 := hS3935.tr g3954 (by decide +kernel) (by decide +kernel)
                        have c3959 : I3951 a1 0 = v29 := (g3954.cell ta1 (by decide +kernel)).trans c3936
                        have c3960 : I3951 a1 1 = v33 := (g3954.cell ta1 (by decide +kernel)).trans c3937
                        have b3961 : 0 ≤ v3955.toInt ∧ v3955.toInt ≤ 99 := by omega
                        clear p3956
                        have hO3962 : FrO 14 a1 T I0 I3951 := hO3938.st g3954 (by decide +kernel)
                        have ov3963 := w3957.over (by rw [c3941]; omega)
                        obtain ⟨v3964, c3965⟩ : ∃ v, I3951 a0 9 = v := ⟨_, rfl⟩
                        have b3966 := iv15_9 hS3958.1 ta0 c3965
                        obtain ⟨v3967, c3968⟩ : ∃ v, I3951 a0 13 = v := ⟨_, rfl⟩
                        obtain ⟨v3969, c3970⟩ : ∃ v, I3951 a0 14 = v := ⟨_, rfl⟩
                        (try rw [c3965] at ov3963)
                        (try rw [c3968] at ov3963)
                        (try rw [c3970] at ov3963)
                        (try rw [c3941] at ov3963)
                        (try rw [c3944] at ov3963)
                        (try rw [c3946] at ov3963)
                        refine q_iast dX12_readAlp_78 (kR53 hS3958.1 ta3765) (ti_in (nR53 hS3958.1 ta3765) (by omega) (by omega)) hS3958 ta3765 (iokF rfl) rfl (by rfl) ?_
                        intro I3971 hS3972 e3974 f3973
                        have c3975 : I3971 a1 0 = v29 := (f3973 _ _ (fun q => by have z := ta1; rw [q.1, ta3765] at z; exact absurd z (by decide))).trans c3959
                        have c3976 : I3971 a1 1 = v33 := (f3973 _ _ (fun q => by have z := ta1; rw [q.1, ta3765] at z; exact absurd z (by decide))).trans c3960
                        have c3977 : I3971 a0 9 = v3964 := (f3973 _ _ (fun q => by have z := ta0; rw [q.1, ta3765] at z; exact absurd z (by decide))).trans c3965
                        have c3978 : I3971 a0 13 = v3967 := (f3973 _ _ (fun q => by have z := ta0; rw [q.1, ta3765] at z; exact absurd z (by decide))).trans c3968
                        have c3979 : I3971 a0 14 = v3969 := (f3973 _ _ (fun q => by have z := ta0; rw [q.1, ta3765] at z; exact absurd z (by decide))).trans c3970
                        have hO3980 : FrO 14 a1 T I0 I3971 := hO3962.put f3973 ta3765 (Or.inl (by decide))
                        refine q_iincE dX12_readAlp_79 rfl (by decide) (by decide) (by intros; omega) ?_
                        intro v3981 h3982
                        refine tr_goto 48 dX12_readAlp_82 (by decide) ?_
                        refine tr_iload_n dX12_readAlp_48 rfl ?_
                        refine q_iconst dX12_readAlp_49 (by decide) ?_
                        intro v3983 h3984
                        refine q_icmp_ge 85 dX12_readAlp_50 (by decide) (fun h3985 => ?_) (fun h3985 => ?_)
                        · skip
                          exfalso; omega
                        · skip
                          refine tr_iload_n dX12_readAlp_53 rfl ?_
                          refine q_if_le 63 dX12_readAlp_54 (by decide) (fun h3986 => ?_) (fun h3986 => ?_)
                          · skip
                            exfalso; omega
                          · skip
                            refine tr_aload_n dX12_readAlp_57 rfl ?_
                            refine q_bipush dX12_readAlp_58 (by decide +kernel) ?_
                            intro v3987 h3988
                            refine q_callVv hE (M' := mX12_needsSign) (as := [_]) dX12_readAlp_60 lk12_257 inX12_needsSign seX12_needsSign myX12_needsSign (by decide) ⟨by decide, by decide⟩ rfl (kR15 hS3972.1 ta0) (Nat.le_of_ble_eq_true rfl) rfl rfl (by decide) (by decide) (k_X12_needsSign hS3972.1 ta0) ?_
                            rintro cn' K' N' I3989 R3990 L3991 ⟨rfl, rfl, rfl, rfl, g3992, w3994, -⟩
                            have hS3995 := hS3972.tr g3992 (by decide +kernel) (by decide +kernel)
                            have c3996 : I3989 a1 0 = v29 := (g3992.cell ta1 (by decide +kernel)).trans c3975
                            have c3997 : I3989 a1 1 = v33 := (g3992.cell ta1 (by decide +kernel)).trans c3976
                            have hO3998 : FrO 14 a1 T I0 I3989 := hO3980.st g3992 (by decide +kernel)
                            have ov3999 := w3994.over (by rw [c3977]; omega)
                            obtain ⟨v4000, c4001⟩ : ∃ v, I3989 a0 9 = v := ⟨_, rfl⟩
                            have b4002 := iv15_9 hS3995.1 ta0 c4001
                            obtain ⟨v4003, c4004⟩ : ∃ v, I3989 a0 13 = v := ⟨_, rfl⟩
                            obtain ⟨v4005, c4006⟩ : ∃ v, I3989 a0 14 = v := ⟨_, rfl⟩
                            (try rw [c4001] at ov3999)
                            (try rw [c4004] at ov3999)
                            (try rw [c4006] at ov3999)
                            (try rw [c3977] at ov3999)
                            (try rw [c3978] at ov3999)
                            (try rw [c3979] at ov3999)
                            refine tr_aload_n dX12_readAlp_63 rfl ?_
                            refine tr_getR dX12_readAlp_64 fl12_188 (kR15 hS3995.1 ta0) d2 ?_
                            refine tr_getR dX12_readAlp_67 fl12_260 (kR14 hS3995.1 ta1) d3766 ?_
                            refine tr_iload_n dX12_readAlp_70 rfl ?_
                            refine tr_aload_n dX12_readAlp_71 rfl ?_
                            refine q_iconst dX12_readAlp_72 (by decide) ?_
                            intro v4007 h4008
                            refine q_bipush dX12_readAlp_73 (by decide +kernel) ?_
                            intro v4009 h4010
                            refine q_callVi hE (M' := mX12_readWhole) (as := [_, _]) dX12_readAlp_75 lk12_161 inX12_readWhole seX12_readWhole myX12_readWhole (by decide) ⟨by decide, by decide⟩ rfl (kR15 hS3995.1 ta0) (Nat.le_of_ble_eq_true rfl) rfl rfl (by decide) (by decide) (k_X12_readWhole hS3995.1 ta0) ?_
                            rintro v4015 cn' K' N' I4011 R4012 L4013 ⟨rfl, rfl, rfl, rfl, g4014, p4016, w4017, -⟩
                            have hS4018 := hS3995.tr g4014 (by decide +kernel) (by decide +kernel)
                            have c4019 : I4011 a1 0 = v29 := (g4014.cell ta1 (by decide +kernel)).trans c3996
                            have c4020 : I4011 a1 1 = v33 := (g4014.cell ta1 (by decide +kernel)).trans c3997
                            have b4021 : 0 ≤ v4015.toInt ∧ v4015.toInt ≤ 99 := by omega
                            clear p4016
                            have hO4022 : FrO 14 a1 T I0 I4011 := hO3998.st g4014 (by decide +kernel)
                            have ov4023 := w4017.over (by rw [c4001]; omega)
                            obtain ⟨v4024, c4025⟩ : ∃ v, I4011 a0 9 = v := ⟨_, rfl⟩
                            have b4026 := iv15_9 hS4018.1 ta0 c4025
                            obtain ⟨v4027, c4028⟩ : ∃ v, I4011 a0 13 = v := ⟨_, rfl⟩
                            obtain ⟨v4029, c4030⟩ : ∃ v, I4011 a0 14 = v := ⟨_, rfl⟩
                            (try rw [c4025] at ov4023)
                            (try rw [c4028] at ov4023)
                            (try rw [c4030] at ov4023)
                            (try rw [c4001] at ov4023)
                            (try rw [c4004] at ov4023)
                            (try rw [c4006] at ov4023)
                            refine q_iast dX12_readAlp_78 (kR53 hS4018.1 ta3765) (ti_in (nR53 hS4018.1 ta3765) (by omega) (by omega)) hS4018 ta3765 (iokF rfl) rfl (by rfl) ?_
                            intro I4031 hS4032 e4034 f4033
                            have c4035 : I4031 a1 0 = v29 := (f4033 _ _ (fun q => by have z := ta1; rw [q.1, ta3765] at z; exact absurd z (by decide))).trans c4019
                            have c4036 : I4031 a1 1 = v33 := (f4033 _ _ (fun q => by have z := ta1; rw [q.1, ta3765] at z; exact absurd z (by decide))).trans c4020
                            have c4037 : I4031 a0 9 = v4024 := (f4033 _ _ (fun q => by have z := ta0; rw [q.1, ta3765] at z; exact absurd z (by decide))).trans c4025
                            have c4038 : I4031 a0 13 = v4027 := (f4033 _ _ (fun q => by have z := ta0; rw [q.1, ta3765] at z; exact absurd z (by decide))).trans c4028
                            have c4039 : I4031 a0 14 = v4029 := (f4033 _ _ (fun q => by have z := ta0; rw [q.1, ta3765] at z; exact absurd z (by decide))).trans c4030
                            have hO4040 : FrO 14 a1 T I0 I4031 := hO4022.put f4033 ta3765 (Or.inl (by decide))
                            refine q_iincE dX12_readAlp_79 rfl (by decide) (by decide) (by intros; omega) ?_
                            intro v4041 h4042
                            refine tr_goto 48 dX12_readAlp_82 (by decide) ?_
                            refine tr_iload_n dX12_readAlp_48 rfl ?_
                            refine q_iconst dX12_readAlp_49 (by decide) ?_
                            intro v4043 h4044
                            refine q_icmp_ge 85 dX12_readAlp_50 (by decide) (fun h4045 => ?_) (fun h4045 => ?_)
                            · skip
                              refine tr_aload_n dX12_readAlp_85 rfl ?_
                              refine q_getI dX12_readAlp_86 fl12_99 (kR15 hS4032.1 ta0) c4037 ?_
                              refine q_iconst dX12_readAlp_89 (by decide) ?_
                              intro v4046 h4047
                              refine q_icmp_ne 94 dX12_readAlp_90 (by decide) (fun h4048 => ?_) (fun h4048 => ?_)
                              · skip
                                exfalso; omega
                              · skip
                                have eF := hF.eq
                                have eP := hP.eq
                                obtain ⟨v4049, c4050⟩ : ∃ v, I4031 a0 10 = v := ⟨_, rfl⟩
                                have b4051 := iv15_10 hS4032.1 ta0 c4050
                                obtain ⟨v4052, c4053⟩ : ∃ v, I4031 a0 11 = v := ⟨_, rfl⟩
                                obtain ⟨y4054, c4055⟩ : ∃ v, L4013 a0 15 = v := ⟨_, rfl⟩
                                obtain ⟨v4056, c4057⟩ : ∃ v, I4031 a0 12 = v := ⟨_, rfl⟩
                                obtain ⟨v4058, c4059⟩ : ∃ v, I4031 a0 8 = v := ⟨_, rfl⟩
                                have b4060 := iv15_8 hS4032.1 ta0 c4059
                                exact tr_vret hZ dX12_readAlp_93 rfl (by decide) (by decide) ⟨rfl, rfl, rfl, rfl, rfl, hS4032, (fun dr hd => (Option.some.inj (d2.symm.trans hd)) ▸ hO4040), (Or.inr (⟨(by (try rw [w107]); first | done | with_reducible assumption | omega), (by (try rw [w107]); (try rw [c4037]); first | done | with_reducible assumption | omega), (by (try rw [w107]); (try rw [c4038]); first | done | with_reducible assumption | omega), (by (try rw [w107]); (try rw [c4039]); first | done | with_reducible assumption | omega), trivial⟩)), trivial⟩
                            · skip
                              exfalso; omega
          · skip
            exfalso; omega
      · skip
        obtain ⟨v4061, c4062⟩ : ∃ v, I191 a0 9 = v := ⟨_, rfl⟩
        have b4063 := iv15_9 hS199.1 ta0 c4062
        rw [c4062] at p235
        obtain ⟨v4064, c4065⟩ : ∃ v, I191 a0 13 = v := ⟨_, rfl⟩
        rw [c4065] at p236
        obtain ⟨v4066, c4067⟩ : ∃ v, I191 a0 14 = v := ⟨_, rfl⟩
        rw [c4067] at p237
        replace hF := hF.neg (by omega)
        replace hP := hP.neg (by omega)
        replace hF := hF.neg (by omega)
        replace hP := hP.neg (by omega)
        replace hF := hF.pos (by omega)
        replace hP := hP.pos (by omega)
        refine tr_istore_n dX12_readAlp_39 (by decide) (by decide) ?_
        refine tr_aload_n dX12_readAlp_40 rfl ?_
        refine tr_ldcS dX12_readAlp_41 ld12_255 ?_
        refine q_callVv hE (M' := mX12_needs) (as := [_]) dX12_readAlp_43 lk12_157 inX12_needs seX12_needs myX12_needs (by decide) ⟨by decide, by decide⟩ rfl (kR15 hS199.1 ta0) (Nat.le_of_ble_eq_true rfl) rfl rfl (by decide) (by decide) (k_X12_needs hS199.1 ta0 (by decide)) ?_
        rintro cn' K' N' I4068 R4069 L4070 ⟨rfl, rfl, rfl, rfl, g4071, w4073, -⟩
        have hS4074 := hS199.tr g4071 (by decide +kernel) (by decide +kernel)
        have c4075 : I4068 a1 0 = v29 := (g4071.cell ta1 (by decide +kernel)).trans c200
        have c4076 : I4068 a1 1 = v33 := (g4071.cell ta1 (by decide +kernel)).trans c201
        have hO4077 : FrO 14 a1 T I0 I4068 := hO202.st g4071 (by decide +kernel)
        have ov4078 := w4073.over (by rw [c4062]; omega)
        obtain ⟨v4079, c4080⟩ : ∃ v, I4068 a0 9 = v := ⟨_, rfl⟩
        have b4081 := iv15_9 hS4074.1 ta0 c4080
        obtain ⟨v4082, c4083⟩ : ∃ v, I4068 a0 13 = v := ⟨_, rfl⟩
        obtain ⟨v4084, c4085⟩ : ∃ v, I4068 a0 14 = v := ⟨_, rfl⟩
        (try rw [c4080] at ov4078)
        (try rw [c4083] at ov4078)
        (try rw [c4085] at ov4078)
        (try rw [c4062] at ov4078)
        (try rw [c4065] at ov4078)
        (try rw [c4067] at ov4078)
        refine q_iconst dX12_readAlp_46 (by decide) ?_
        intro v4086 h4087
        refine tr_istore_n dX12_readAlp_47 (by decide) (by decide) ?_
        refine tr_iload_n dX12_readAlp_48 rfl ?_
        refine q_iconst dX12_readAlp_49 (by decide) ?_
        intro v4088 h4089
        refine q_icmp_ge 85 dX12_readAlp_50 (by decide) (fun h4090 => ?_) (fun h4090 => ?_)
        · skip
          exfalso; omega
        · skip
          refine tr_iload_n dX12_readAlp_53 rfl ?_
          refine q_if_le 63 dX12_readAlp_54 (by decide) (fun h4091 => ?_) (fun h4091 => ?_)
          · skip
            refine tr_aload_n dX12_readAlp_63 rfl ?_
            refine tr_getR dX12_readAlp_64 fl12_188 (kR15 hS4074.1 ta0) d2 ?_
            obtain ⟨a4092, d4093, ta4092⟩ := rf14_10 hW0 ta1
            refine tr_getR dX12_readAlp_67 fl12_260 (kR14 hS4074.1 ta1) d4093 ?_
            refine tr_iload_n dX12_readAlp_70 rfl ?_
            refine tr_aload_n dX12_readAlp_71 rfl ?_
            refine q_iconst dX12_readAlp_72 (by decide) ?_
            intro v4094 h4095
            refine q_bipush dX12_readAlp_73 (by decide +kernel) ?_
            intro v4096 h4097
            refine q_callVi hE (M' := mX12_readWhole) (as := [_, _]) dX12_readAlp_75 lk12_161 inX12_readWhole seX12_readWhole myX12_readWhole (by decide) ⟨by decide, by decide⟩ rfl (kR15 hS4074.1 ta0) (Nat.le_of_ble_eq_true rfl) rfl rfl (by decide) (by decide) (k_X12_readWhole hS4074.1 ta0) ?_
            rintro v4102 cn' K' N' I4098 R4099 L4100 ⟨rfl, rfl, rfl, rfl, g4101, p4103, w4104, -⟩
            have hS4105 := hS4074.tr g4101 (by decide +kernel) (by decide +kernel)
            have c4106 : I4098 a1 0 = v29 := (g4101.cell ta1 (by decide +kernel)).trans c4075
            have c4107 : I4098 a1 1 = v33 := (g4101.cell ta1 (by decide +kernel)).trans c4076
            have b4108 : 0 ≤ v4102.toInt ∧ v4102.toInt ≤ 99 := by omega
            clear p4103
            have hO4109 : FrO 14 a1 T I0 I4098 := hO4077.st g4101 (by decide +kernel)
            have ov4110 := w4104.over (by rw [c4080]; omega)
            obtain ⟨v4111, c4112⟩ : ∃ v, I4098 a0 9 = v := ⟨_, rfl⟩
            have b4113 := iv15_9 hS4105.1 ta0 c4112
            obtain ⟨v4114, c4115⟩ : ∃ v, I4098 a0 13 = v := ⟨_, rfl⟩
            obtain ⟨v4116, c4117⟩ : ∃ v, I4098 a0 14 = v := ⟨_, rfl⟩
            (try rw [c4112] at ov4110)
            (try rw [c4115] at ov4110)
            (try rw [c4117] at ov4110)
            (try rw [c4080] at ov4110)
            (try rw [c4083] at ov4110)
            (try rw [c4085] at ov4110)
            refine q_iast dX12_readAlp_78 (kR53 hS4105.1 ta4092) (ti_in (nR53 hS4105.1 ta4092) (by omega) (by omega)) hS4105 ta4092 (iokF rfl) rfl (by rfl) ?_
            intro I4118 hS4119 e4121 f4120
            have c4122 : I4118 a1 0 = v29 := (f4120 _ _ (fun q => by have z := ta1; rw [q.1, ta4092] at z; exact absurd z (by decide))).trans c4106
            have c4123 : I4118 a1 1 = v33 := (f4120 _ _ (fun q => by have z := ta1; rw [q.1, ta4092] at z; exact absurd z (by decide))).trans c4107
            have c4124 : I4118 a0 9 = v4111 := (f4120 _ _ (fun q => by have z := ta0; rw [q.1, ta4092] at z; exact absurd z (by decide))).trans c4112
            have c4125 : I4118 a0 13 = v4114 := (f4120 _ _ (fun q => by have z := ta0; rw [q.1, ta4092] at z; exact absurd z (by decide))).trans c4115
            have c4126 : I4118 a0 14 = v4116 := (f4120 _ _ (fun q => by have z := ta0; rw [q.1, ta4092] at z; exact absurd z (by decide))).trans c4117
            have hO4127 : FrO 14 a1 T I0 I4118 := hO4109.put f4120 ta4092 (Or.inl (by decide))
            refine q_iincE dX12_readAlp_79 rfl (by decide) (by decide) (by intros; omega) ?_
            intro v4128 h4129
            refine tr_goto 48 dX12_readAlp_82 (by decide) ?_
            refine tr_iload_n dX12_readAlp_48 rfl ?_
            refine q_iconst dX12_readAlp_49 (by decide) ?_
            intro v4130 h4131
            refine q_icmp_ge 85 dX12_readAlp_50 (by decide) (fun h4132 => ?_) (fun h4132 => ?_)
            · skip
              exfalso; omega
            · skip
              refine tr_iload_n dX12_readAlp_53 rfl ?_
              refine q_if_le 63 dX12_readAlp_54 (by decide) (fun h4133 => ?_) (fun h4133 => ?_)
              · skip
                exfalso; omega
              · skip
                refine tr_aload_n dX12_readAlp_57 rfl ?_
                refine q_bipush dX12_readAlp_58 (by decide +kernel) ?_
                intro v4134 h4135
                refine q_callVv hE (M' := mX12_needsSign) (as := [_]) dX12_readAlp_60 lk12_257 inX12_needsSign seX12_needsSign myX12_needsSign (by decide) ⟨by decide, by decide⟩ rfl (kR15 hS4119.1 ta0) (Nat.le_of_ble_eq_true rfl) rfl rfl (by decide) (by decide) (k_X12_needsSign hS4119.1 ta0) ?_
                rintro cn' K' N' I4136 R4137 L4138 ⟨rfl, rfl, rfl, rfl, g4139, w4141, -⟩
                have hS4142 := hS4119.tr g4139 (by decide +kernel) (by decide +kernel)
                have c4143 : I4136 a1 0 = v29 := (g4139.cell ta1 (by decide +kernel)).trans c4122
                have c4144 : I4136 a1 1 = v33 := (g4139.cell ta1 (by decide +kernel)).trans c4123
                have hO4145 : FrO 14 a1 T I0 I4136 := hO4127.st g4139 (by decide +kernel)
                have ov4146 := w4141.over (by rw [c4124]; omega)
                obtain ⟨v4147, c4148⟩ : ∃ v, I4136 a0 9 = v := ⟨_, rfl⟩
                have b4149 := iv15_9 hS4142.1 ta0 c4148
                obtain ⟨v4150, c4151⟩ : ∃ v, I4136 a0 13 = v := ⟨_, rfl⟩
                obtain ⟨v4152, c4153⟩ : ∃ v, I4136 a0 14 = v := ⟨_, rfl⟩
                (try rw [c4148] at ov4146)
                (try rw [c4151] at ov4146)
                (try rw [c4153] at ov4146)
                (try rw [c4124] at ov4146)
                (try rw [c4125] at ov4146)
                (try rw [c4126] at ov4146)
                refine tr_aload_n dX12_readAlp_63 rfl ?_
                refine tr_getR dX12_readAlp_64 fl12_188 (kR15 hS4142.1 ta0) d2 ?_
                refine tr_getR dX12_readAlp_67 fl12_260 (kR14 hS4142.1 ta1) d4093 ?_
                refine tr_iload_n dX12_readAlp_70 rfl ?_
                refine tr_aload_n dX12_readAlp_71 rfl ?_
                refine q_iconst dX12_readAlp_72 (by decide) ?_
                intro v4154 h4155
                refine q_bipush dX12_readAlp_73 (by decide +kernel) ?_
                intro v4156 h4157
                refine q_callVi hE (M' := mX12_readWhole) (as := [_, _]) dX12_readAlp_75 lk12_161 inX12_readWhole seX12_readWhole myX12_readWhole (by decide) ⟨by decide, by decide⟩ rfl (kR15 hS4142.1 ta0) (Nat.le_of_ble_eq_true rfl) rfl rfl (by decide) (by decide) (k_X12_readWhole hS4142.1 ta0) ?_
                rintro v4162 cn' K' N' I4158 R4159 L4160 ⟨rfl, rfl, rfl, rfl, g4161, p4163, w4164, -⟩
                have hS4165 := hS4142.tr g4161 (by decide +kernel) (by decide +kernel)
                have c4166 : I4158 a1 0 = v29 := (g4161.cell ta1 (by decide +kernel)).trans c4143
                have c4167 : I4158 a1 1 = v33 := (g4161.cell ta1 (by decide +kernel)).trans c4144
                have b4168 : 0 ≤ v4162.toInt ∧ v4162.toInt ≤ 99 := by omega
                clear p4163
                have hO4169 : FrO 14 a1 T I0 I4158 := hO4145.st g4161 (by decide +kernel)
                have ov4170 := w4164.over (by rw [c4148]; omega)
                obtain ⟨v4171, c4172⟩ : ∃ v, I4158 a0 9 = v := ⟨_, rfl⟩
                have b4173 := iv15_9 hS4165.1 ta0 c4172
                obtain ⟨v4174, c4175⟩ : ∃ v, I4158 a0 13 = v := ⟨_, rfl⟩
                obtain ⟨v4176, c4177⟩ : ∃ v, I4158 a0 14 = v := ⟨_, rfl⟩
                (try rw [c4172] at ov4170)
                (try rw [c4175] at ov4170)
                (try rw [c4177] at ov4170)
                (try rw [c4148] at ov4170)
                (try rw [c4151] at ov4170)
                (try rw [c4153] at ov4170)
                refine q_iast dX12_readAlp_78 (kR53 hS4165.1 ta4092) (ti_in (nR53 hS4165.1 ta4092) (by omega) (by omega)) hS4165 ta4092 (iokF rfl) rfl (by rfl) ?_
                intro I4178 hS4179 e4181 f4180
                have c4182 : I4178 a1 0 = v29 := (f4180 _ _ (fun q => by have z := ta1; rw [q.1, ta4092] at z; exact absurd z (by decide))).trans c4166
                have c4183 : I4178 a1 1 = v33 := (f4180 _ _ (fun q => by have z := ta1; rw [q.1, ta4092] at z; exact absurd z (by decide))).trans c4167
                have c4184 : I4178 a0 9 = v4171 := (f4180 _ _ (fun q => by have z := ta0; rw [q.1, ta4092] at z; exact absurd z (by decide))).trans c4172
                have c4185 : I4178 a0 13 = v4174 := (f4180 _ _ (fun q => by have z := ta0; rw [q.1, ta4092] at z; exact absurd z (by decide))).trans c4175
                have c4186 : I4178 a0 14 = v4176 := (f4180 _ _ (fun q => by have z := ta0; rw [q.1, ta4092] at z; exact absurd z (by decide))).trans c4177
                have hO4187 : FrO 14 a1 T I0 I4178 := hO4169.put f4180 ta4092 (Or.inl (by decide))
                refine q_iincE dX12_readAlp_79 rfl (by decide) (by decide) (by intros; omega) ?_
                intro v4188 h4189
                refine tr_goto 48 dX12_readAlp_82 (by decide) ?_
                refine tr_iload_n dX12_readAlp_48 rfl ?_
                refine q_iconst dX12_readAlp_49 (by decide) ?_
                intro v4190 h4191
                refine q_icmp_ge 85 dX12_readAlp_50 (by decide) (fun h4192 => ?_) (fun h4192 => ?_)
                · skip
                  exfalso; omega
                · skip
                  refine tr_iload_n dX12_readAlp_53 rfl ?_
                  refine q_if_le 63 dX12_readAlp_54 (by decide) (fun h4193 => ?_) (fun h4193 => ?_)
                  · skip
                    exfalso; omega
                  · skip
                    refine tr_aload_n dX12_readAlp_57 rfl ?_
                    refine q_bipush dX12_readAlp_58 (by decide +kernel) ?_
                    intro v4194 h4195
                    refine q_callVv hE (M' := mX12_needsSign) (as := [_]) dX12_readAlp_60 lk12_257 inX12_needsSign seX12_needsSign myX12_needsSign (by decide) ⟨by decide, by decide⟩ rfl (kR15 hS4179.1 ta0) (Nat.le_of_ble_eq_true rfl) rfl rfl (by decide) (by decide) (k_X12_needsSign hS4179.1 ta0) ?_
                    rintro cn' K' N' I4196 R4197 L4198 ⟨rfl, rfl, rfl, rfl, g4199, w4201, -⟩
                    have hS4202 := hS4179.tr g4199 (by decide +kernel) (by decide +kernel)
                    have c4203 : I4196 a1 0 = v29 := (g4199.cell ta1 (by decide +kernel)).trans c4182
                    have c4204 : I4196 a1 1 = v33 := (g4199.cell ta1 (by decide +kernel)).trans c4183
                    have hO4205 : FrO 14 a1 T I0 I4196 := hO4187.st g4199 (by decide +kernel)
                    have ov4206 := w4201.over (by rw [c4184]; omega)
                    obtain ⟨v4207, c4208⟩ : ∃ v, I4196 a0 9 = v := ⟨_, rfl⟩
                    have b4209 := iv15_9 hS4202.1 ta0 c4208
                    obtain ⟨v4210, c4211⟩ : ∃ v, I4196 a0 13 = v := ⟨_, rfl⟩
                    obtain ⟨v4212, c4213⟩ : ∃ v, I4196 a0 14 = v := ⟨_, rfl⟩
                    (try rw [c4208] at ov4206)
                    (try rw [c4211] at ov4206)
                    (try rw [c4213] at ov4206)
                    (try rw [c4184] at ov4206)
                    (try rw [c4185] at ov4206)
                    (try rw [c4186] at ov4206)
                    refine tr_aload_n dX12_readAlp_63 rfl ?_
                    refine tr_getR dX12_readAlp_64 fl12_188 (kR15 hS4202.1 ta0) d2 ?_
                    refine tr_getR dX12_readAlp_67 fl12_260 (kR14 hS4202.1 ta1) d4093 ?_
                    refine tr_iload_n dX12_readAlp_70 rfl ?_
                    refine tr_aload_n dX12_readAlp_71 rfl ?_
                    refine q_iconst dX12_readAlp_72 (by decide) ?_
                    intro v4214 h4215
                    refine q_bipush dX12_readAlp_73 (by decide +kernel) ?_
                    intro v4216 h4217
                    refine q_callVi hE (M' := mX12_readWhole) (as := [_, _]) dX12_readAlp_75 lk12_161 inX12_readWhole seX12_readWhole myX12_readWhole (by decide) ⟨by decide, by decide⟩ rfl (kR15 hS4202.1 ta0) (Nat.le_of_ble_eq_true rfl) rfl rfl (by decide) (by decide) (k_X12_readWhole hS4202.1 ta0) ?_
                    rintro v4222 cn' K' N' I4218 R4219 L4220 ⟨rfl, rfl, rfl, rfl, g4221, p4223, w4224, -⟩
                    have hS4225 := hS4202.tr g4221 (by decide +kernel) (by decide +kernel)
                    have c4226 : I4218 a1 0 = v29 := (g4221.cell ta1 (by decide +kernel)).trans c4203
                    have c4227 : I4218 a1 1 = v33 := (g4221.cell ta1 (by decide +kernel)).trans c4204
                    have b4228 : 0 ≤ v4222.toInt ∧ v4222.toInt ≤ 99 := by omega
                    clear p4223
                    have hO4229 : FrO 14 a1 T I0 I4218 := hO4205.st g4221 (by decide +kernel)
                    have ov4230 := w4224.over (by rw [c4208]; omega)
                    obtain ⟨v4231, c4232⟩ : ∃ v, I4218 a0 9 = v := ⟨_, rfl⟩
                    have b4233 := iv15_9 hS4225.1 ta0 c4232
                    obtain ⟨v4234, c4235⟩ : ∃ v, I4218 a0 13 = v := ⟨_, rfl⟩
                    obtain ⟨v4236, c4237⟩ : ∃ v, I4218 a0 14 = v := ⟨_, rfl⟩
                    (try rw [c4232] at ov4230)
                    (try rw [c4235] at ov4230)
                    (try rw [c4237] at ov4230)
                    (try rw [c4208] at ov4230)
                    (try rw [c4211] at ov4230)
                    (try rw [c4213] at ov4230)
                    refine q_iast dX12_readAlp_78 (kR53 hS4225.1 ta4092) (ti_in (nR53 hS4225.1 ta4092) (by omega) (by omega)) hS4225 ta4092 (iokF rfl) rfl (by rfl) ?_
                    intro I4238 hS4239 e4241 f4240
                    have c4242 : I4238 a1 0 = v29 := (f4240 _ _ (fun q => by have z := ta1; rw [q.1, ta4092] at z; exact absurd z (by decide))).trans c4226
                    have c4243 : I4238 a1 1 = v33 := (f4240 _ _ (fun q => by have z := ta1; rw [q.1, ta4092] at z; exact absurd z (by decide))).trans c4227
                    have c4244 : I4238 a0 9 = v4231 := (f4240 _ _ (fun q => by have z := ta0; rw [q.1, ta4092] at z; exact absurd z (by decide))).trans c4232
                    have c4245 : I4238 a0 13 = v4234 := (f4240 _ _ (fun q => by have z := ta0; rw [q.1, ta4092] at z; exact absurd z (by decide))).trans c4235
                    have c4246 : I4238 a0 14 = v4236 := (f4240 _ _ (fun q => by have z := ta0; rw [q.1, ta4092] at z; exact absurd z (by decide))).trans c4237
                    have hO4247 : FrO 14 a1 T I0 I4238 := hO4229.put f4240 ta4092 (Or.inl (by decide))
                    refine q_iincE dX12_readAlp_79 rfl (by decide) (by decide) (by intros; omega) ?_
                    intro v4248 h4249
                    refine tr_goto 48 dX12_readAlp_82 (by decide) ?_
                    refine tr_iload_n dX12_readAlp_48 rfl ?_
                    refine q_iconst dX12_readAlp_49 (by decide) ?_
                    intro v4250 h4251
                    refine q_icmp_ge 85 dX12_readAlp_50 (by decide) (fun h4252 => ?_) (fun h4252 => ?_)
                    · skip
                      exfalso; omega
                    · skip
                      refine tr_iload_n dX12_readAlp_53 rfl ?_
                      refine q_if_le 63 dX12_readAlp_54 (by decide) (fun h4253 => ?_) (fun h4253 => ?_)
                      · skip
                        exfalso; omega
                      · skip
                        refine tr_aload_n dX12_readAlp_57 rfl ?_
                        refine q_bipush dX12_readAlp_58 (by decide +kernel) ?_
                        intro v4254 h4255
                        refine q_callVv hE (M' := mX12_needsSign) (as := [_]) dX12_readAlp_60 lk12_257 inX12_needsSign seX12_needsSign myX12_needsSign (by decide) ⟨by decide, by decide⟩ rfl (kR15 hS4239.1 ta0) (Nat.le_of_ble_eq_true rfl) rfl rfl (by decide) (by decide) (k_X12_needsSign hS4239.1 ta0) ?_
                        rintro cn' K' N' I4256 R4257 L4258 ⟨rfl, rfl, rfl, rfl, g4259, w4261, -⟩
                        have hS4262 := hS4239.tr g4259 (by decide +kernel) (by decide +kernel)
                        have c4263 : I4256 a1 0 = v29 := (g4259.cell ta1 (by decide +kernel)).trans c4242
                        have c4264 : I4256 a1 1 = v33 := (g4259.cell ta1 (by decide +kernel)).trans c4243
                        have hO4265 : FrO 14 a1 T I0 I4256 := hO4247.st g4259 (by decide +kernel)
                        have ov4266 := w4261.over (by rw [c4244]; omega)
                        obtain ⟨v4267, c4268⟩ : ∃ v, I4256 a0 9 = v := ⟨_, rfl⟩
                        have b4269 := iv15_9 hS4262.1 ta0 c4268
                        obtain ⟨v4270, c4271⟩ : ∃ v, I4256 a0 13 = v := ⟨_, rfl⟩
                        obtain ⟨v4272, c4273⟩ : ∃ v, I4256 a0 14 = v := ⟨_, rfl⟩
                        (try rw [c4268] at ov4266)
                        (try rw [c4271] at ov4266)
                        (try rw [c4273] at ov4266)
                        (try rw [c4244] at ov4266)
                        (try rw [c4245] at ov4266)
                        (try rw [c4246] at ov4266)
                        refine tr_aload_n dX12_readAlp_63 rfl ?_
                        refine tr_getR dX12_readAlp_64 fl12_188 (kR15 hS4262.1 ta0) d2 ?_
                        refine tr_getR dX12_readAlp_67 fl12_260 (kR14 hS4262.1 ta1) d4093 ?_
                        refine tr_iload_n dX12_readAlp_70 rfl ?_
                        refine tr_aload_n dX12_readAlp_71 rfl ?_
                        refine q_iconst dX12_readAlp_72 (by decide) ?_
                        intro v4274 h4275
                        refine q_bipush dX12_readAlp_73 (by decide +kernel) ?_
                        intro v4276 h4277
                        refine q_callVi hE (M' := mX12_readWhole) (as := [_, _]) dX12_readAlp_75 lk12_161 inX12_readWhole seX12_readWhole myX12_readWhole (by decide) ⟨by decide, by decide⟩ rfl (kR15 hS4262.1 ta0) (Nat.le_of_ble_eq_true rfl) rfl rfl (by decide) (by decide) (k_X12_readWhole hS4262.1 ta0) ?_
                        rintro v4282 cn' K' N' I4278 R4279 L4280 ⟨rfl, rfl, rfl, rfl, g4281, p4283, w4284, -⟩
                        have hS4285 := hS4262.tr g4281 (by decide +kernel) (by decide +kernel)
                        have c4286 : I4278 a1 0 = v29 := (g4281.cell ta1 (by decide +kernel)).trans c4263
                        have c4287 : I4278 a1 1 = v33 := (g4281.cell ta1 (by decide +kernel)).trans c4264
                        have b4288 : 0 ≤ v4282.toInt ∧ v4282.toInt ≤ 99 := by omega
                        clear p4283
                        have hO4289 : FrO 14 a1 T I0 I4278 := hO4265.st g4281 (by decide +kernel)
                        have ov4290 := w4284.over (by rw [c4268]; omega)
                        obtain ⟨v4291, c4292⟩ : ∃ v, I4278 a0 9 = v := ⟨_, rfl⟩
                        have b4293 := iv15_9 hS4285.1 ta0 c4292
                        obtain ⟨v4294, c4295⟩ : ∃ v, I4278 a0 13 = v := ⟨_, rfl⟩
                        obtain ⟨v4296, c4297⟩ : ∃ v, I4278 a0 14 = v := ⟨_, rfl⟩
                        (try rw [c4292] at ov4290)
                        (try rw [c4295] at ov4290)
                        (try rw [c4297] at ov4290)
                        (try rw [c4268] at ov4290)
                        (try rw [c4271] at ov4290)
                        (try rw [c4273] at ov4290)
                        refine q_iast dX12_readAlp_78 (kR53 hS4285.1 ta4092) (ti_in (nR53 hS4285.1 ta4092) (by omega) (by omega)) hS4285 ta4092 (iokF rfl) rfl (by rfl) ?_
                        intro I4298 hS4299 e4301 f4300
                        have c4302 : I4298 a1 0 = v29 := (f4300 _ _ (fun q => by have z := ta1; rw [q.1, ta4092] at z; exact absurd z (by decide))).trans c4286
                        have c4303 : I4298 a1 1 = v33 := (f4300 _ _ (fun q => by have z := ta1; rw [q.1, ta4092] at z; exact absurd z (by decide))).trans c4287
                        have c4304 : I4298 a0 9 = v4291 := (f4300 _ _ (fun q => by have z := ta0; rw [q.1, ta4092] at z; exact absurd z (by decide))).trans c4292
                        have c4305 : I4298 a0 13 = v4294 := (f4300 _ _ (fun q => by have z := ta0; rw [q.1, ta4092] at z; exact absurd z (by decide))).trans c4295
                        have c4306 : I4298 a0 14 = v4296 := (f4300 _ _ (fun q => by have z := ta0; rw [q.1, ta4092] at z; exact absurd z (by decide))).trans c4297
                        have hO4307 : FrO 14 a1 T I0 I4298 := hO4289.put f4300 ta4092 (Or.inl (by decide))
                        refine q_iincE dX12_readAlp_79 rfl (by decide) (by decide) (by intros; omega) ?_
                        intro v4308 h4309
                        refine tr_goto 48 dX12_readAlp_82 (by decide) ?_
                        refine tr_iload_n dX12_readAlp_48 rfl ?_
                        refine q_iconst dX12_readAlp_49 (by decide) ?_
                        intro v4310 h4311
                        refine q_icmp_ge 85 dX12_readAlp_50 (by decide) (fun h4312 => ?_) (fun h4312 => ?_)
                        · skip
                          exfalso; omega
                        · skip
                          refine tr_iload_n dX12_readAlp_53 rfl ?_
                          refine q_if_le 63 dX12_readAlp_54 (by decide) (fun h4313 => ?_) (fun h4313 => ?_)
                          · skip
                            exfalso; omega
                          · skip
                            refine tr_aload_n dX12_readAlp_57 rfl ?_
                            refine q_bipush dX12_readAlp_58 (by decide +kernel) ?_
                            intro v4314 h4315
                            refine q_callVv hE (M' := mX12_needsSign) (as := [_]) dX12_readAlp_60 lk12_257 inX12_needsSign seX12_needsSign myX12_needsSign (by decide) ⟨by decide, by decide⟩ rfl (kR15 hS4299.1 ta0) (Nat.le_of_ble_eq_true rfl) rfl rfl (by decide) (by decide) (k_X12_needsSign hS4299.1 ta0) ?_
                            rintro cn' K' N' I4316 R4317 L4318 ⟨rfl, rfl, rfl, rfl, g4319, w4321, -⟩
                            have hS4322 := hS4299.tr g4319 (by decide +kernel) (by decide +kernel)
                            have c4323 : I4316 a1 0 = v29 := (g4319.cell ta1 (by decide +kernel)).trans c4302
                            have c4324 : I4316 a1 1 = v33 := (g4319.cell ta1 (by decide +kernel)).trans c4303
                            have hO4325 : FrO 14 a1 T I0 I4316 := hO4307.st g4319 (by decide +kernel)
                            have ov4326 := w4321.over (by rw [c4304]; omega)
                            obtain ⟨v4327, c4328⟩ : ∃ v, I4316 a0 9 = v := ⟨_, rfl⟩
                            have b4329 := iv15_9 hS4322.1 ta0 c4328
                            obtain ⟨v4330, c4331⟩ : ∃ v, I4316 a0 13 = v := ⟨_, rfl⟩
                            obtain ⟨v4332, c4333⟩ : ∃ v, I4316 a0 14 = v := ⟨_, rfl⟩
                            (try rw [c4328] at ov4326)
                            (try rw [c4331] at ov4326)
                            (try rw [c4333] at ov4326)
                            (try rw [c4304] at ov4326)
                            (try rw [c4305] at ov4326)
                            (try rw [c4306] at ov4326)
                            refine tr_aload_n dX12_readAlp_63 rfl ?_
                            refine tr_getR dX12_readAlp_64 fl12_188 (kR15 hS4322.1 ta0) d2 ?_
                            refine tr_getR dX12_readAlp_67 fl12_260 (kR14 hS4322.1 ta1) d4093 ?_
                            refine tr_iload_n dX12_readAlp_70 rfl ?_
                            refine tr_aload_n dX12_readAlp_71 rfl ?_
                            refine q_iconst dX12_readAlp_72 (by decide) ?_
                            intro v4334 h4335
                            refine q_bipush dX12_readAlp_73 (by decide +kernel) ?_
                            intro v4336 h4337
                            refine q_callVi hE (M' := mX12_readWhole) (as := [_, _]) dX12_readAlp_75 lk12_161 inX12_readWhole seX12_readWhole myX12_readWhole (by decide) ⟨by decide, by decide⟩ rfl (kR15 hS4322.1 ta0) (Nat.le_of_ble_eq_true rfl) rfl rfl (by decide) (by decide) (k_X12_readWhole hS4322.1 ta0) ?_
                            rintro v4342 cn' K' N' I4338 R4339 L4340 ⟨rfl, rfl, rfl, rfl, g4341, p4343, w4344, -⟩
                            have hS4345 := hS4322.tr g4341 (by decide +kernel) (by decide +kernel)
                            have c4346 : I4338 a1 0 = v29 := (g4341.cell ta1 (by decide +kernel)).trans c4323
                            have c4347 : I4338 a1 1 = v33 := (g4341.cell ta1 (by decide +kernel)).trans c4324
                            have b4348 : 0 ≤ v4342.toInt ∧ v4342.toInt ≤ 99 := by omega
                            clear p4343
                            have hO4349 : FrO 14 a1 T I0 I4338 := hO4325.st g4341 (by decide +kernel)
                            have ov4350 := w4344.over (by rw [c4328]; omega)
                            obtain ⟨v4351, c4352⟩ : ∃ v, I4338 a0 9 = v := ⟨_, rfl⟩
                            have b4353 := iv15_9 hS4345.1 ta0 c4352
                            obtain ⟨v4354, c4355⟩ : ∃ v, I4338 a0 13 = v := ⟨_, rfl⟩
                            obtain ⟨v4356, c4357⟩ : ∃ v, I4338 a0 14 = v := ⟨_, rfl⟩
                            (try rw [c4352] at ov4350)
                            (try rw [c4355] at ov4350)
                            (try rw [c4357] at ov4350)
                            (try rw [c4328] at ov4350)
                            (try rw [c4331] at ov4350)
                            (try rw [c4333] at ov4350)
                            refine q_iast dX12_readAlp_78 (kR53 hS4345.1 ta4092) (ti_in (nR53 hS4345.1 ta4092) (by omega) (by omega)) hS4345 ta4092 (iokF rfl) rfl (by rfl) ?_
                            intro I4358 hS4359 e4361 f4360
                            have c4362 : I4358 a1 0 = v29 := (f4360 _ _ (fun q => by have z := ta1; rw [q.1, ta4092] at z; exact absurd z (by decide))).trans c4346
                            have c4363 : I4358 a1 1 = v33 := (f4360 _ _ (fun q => by have z := ta1; rw [q.1, ta4092] at z; exact absurd z (by decide))).trans c4347
                            have c4364 : I4358 a0 9 = v4351 := (f4360 _ _ (fun q => by have z := ta0; rw [q.1, ta4092] at z; exact absurd z (by decide))).trans c4352
                            have c4365 : I4358 a0 13 = v4354 := (f4360 _ _ (fun q => by have z := ta0; rw [q.1, ta4092] at z; exact absurd z (by decide))).trans c4355
                            have c4366 : I4358 a0 14 = v4356 := (f4360 _ _ (fun q => by have z := ta0; rw [q.1, ta4092] at z; exact absurd z (by decide))).trans c4357
                            have hO4367 : FrO 14 a1 T I0 I4358 := hO4349.put f4360 ta4092 (Or.inl (by decide))
                            refine q_iincE dX12_readAlp_79 rfl (by decide) (by decide) (by intros; omega) ?_
                            intro v4368 h4369
                            refine tr_goto 48 dX12_readAlp_82 (by decide) ?_
                            refine tr_iload_n dX12_readAlp_48 rfl ?_
                            refine q_iconst dX12_readAlp_49 (by decide) ?_
                            intro v4370 h4371
                            refine q_icmp_ge 85 dX12_readAlp_50 (by decide) (fun h4372 => ?_) (fun h4372 => ?_)
                            · skip
                              refine tr_aload_n dX12_readAlp_85 rfl ?_
                              refine q_getI dX12_readAlp_86 fl12_99 (kR15 hS4359.1 ta0) c4364 ?_
                              refine q_iconst dX12_readAlp_89 (by decide) ?_
                              intro v4373 h4374
                              refine q_icmp_ne 94 dX12_readAlp_90 (by decide) (fun h4375 => ?_) (fun h4375 => ?_)
                              · skip
                                exfalso; omega
                              · skip
                                have eF := hF.eq
                                have eP := hP.eq
                                obtain ⟨v4376, c4377⟩ : ∃ v, I4358 a0 10 = v := ⟨_, rfl⟩
                                have b4378 := iv15_10 hS4359.1 ta0 c4377
                                obtain ⟨v4379, c4380⟩ : ∃ v, I4358 a0 11 = v := ⟨_, rfl⟩
                                obtain ⟨y4381, c4382⟩ : ∃ v, L4340 a0 15 = v := ⟨_, rfl⟩
                                obtain ⟨v4383, c4384⟩ : ∃ v, I4358 a0 12 = v := ⟨_, rfl⟩
                                obtain ⟨v4385, c4386⟩ : ∃ v, I4358 a0 8 = v := ⟨_, rfl⟩
                                have b4387 := iv15_8 hS4359.1 ta0 c4386
                                exact tr_vret hZ dX12_readAlp_93 rfl (by decide) (by decide) ⟨rfl, rfl, rfl, rfl, rfl, hS4359, (fun dr hd => (Option.some.inj (d2.symm.trans hd)) ▸ hO4367), (Or.inr (⟨(by (try rw [w107]); first | done | with_reducible assumption | omega), (by (try rw [w107]); (try rw [c4364]); first | done | with_reducible assumption | omega), (by (try rw [w107]); (try rw [c4365]); first | done | with_reducible assumption | omega), (by (try rw [w107]); (try rw [c4366]); first | done | with_reducible assumption | omega), trivial⟩)), trivial⟩
                            · skip
                              exfalso; omega
          · skip
            exfalso; omega
    · skip
      obtain ⟨v4388, c4389⟩ : ∃ v, I121 a0 9 = v := ⟨_, rfl⟩
      have b4390 := iv15_9 hS129.1 ta0 c4389
      rw [c4389] at p150
      obtain ⟨v4391, c4392⟩ : ∃ v, I121 a0 13 = v := ⟨_, rfl⟩
      rw [c4392] at p151
      obtain ⟨v4393, c4394⟩ : ∃ v, I121 a0 14 = v := ⟨_, rfl⟩
      rw [c4394] at p152
      replace hF := hF.pos (by omega)
      replace hP := hP.pos (by omega)
      refine tr_istore_n dX12_readAlp_30 (by decide) (by decide) ?_
      refine tr_aload_n dX12_readAlp_31 rfl ?_
      refine tr_ldcS dX12_readAlp_32 ld12_253 ?_
      refine q_iconst dX12_readAlp_34 (by decide) ?_
      intro v4395 h4396
      refine q_iconst dX12_readAlp_35 (by decide) ?_
      intro v4397 h4398
      refine q_callVi hE (M' := mX12_readPart) (as := [_, _, _]) dX12_readAlp_36 lk12_249 inX12_readPart seX12_readPart myX12_readPart (by decide) ⟨by decide, by decide⟩ rfl (kR15 hS129.1 ta0) (Nat.le_of_ble_eq_true rfl) rfl rfl (by decide) (by decide) (k_X12_readPart hS129.1 ta0 (by decide)) ?_
      rintro v4403 cn' K' N' I4399 R4400 L4401 ⟨rfl, rfl, rfl, rfl, g4402, p4404, w4405, -⟩
      have hS4406 := hS129.tr g4402 (by decide +kernel) (by decide +kernel)
      have c4407 : I4399 a1 0 = v29 := (g4402.cell ta1 (by decide +kernel)).trans c130
      have c4408 : I4399 a1 1 = v33 := (g4402.cell ta1 (by decide +kernel)).trans c131
      have b4409 : 1 ≤ v4403.toInt ∧ v4403.toInt ≤ 4 := by omega
      clear p4404
      have hO4410 : FrO 14 a1 T I0 I4399 := hO132.st g4402 (by decide +kernel)
      have ov4411 := w4405.over (by rw [c4389]; omega)
      obtain ⟨v4412, c4413⟩ : ∃ v, I4399 a0 9 = v := ⟨_, rfl⟩
      have b4414 := iv15_9 hS4406.1 ta0 c4413
      obtain ⟨v4415, c4416⟩ : ∃ v, I4399 a0 13 = v := ⟨_, rfl⟩
      obtain ⟨v4417, c4418⟩ : ∃ v, I4399 a0 14 = v := ⟨_, rfl⟩
      (try rw [c4413] at ov4411)
      (try rw [c4416] at ov4411)
      (try rw [c4418] at ov4411)
      (try rw [c4389] at ov4411)
      (try rw [c4392] at ov4411)
      (try rw [c4394] at ov4411)
      refine tr_istore_n dX12_readAlp_39 (by decide) (by decide) ?_
      refine tr_aload_n dX12_readAlp_40 rfl ?_
      refine tr_ldcS dX12_readAlp_41 ld12_255 ?_
      refine q_callVv hE (M' := mX12_needs) (as := [_]) dX12_readAlp_43 lk12_157 inX12_needs seX12_needs myX12_needs (by decide) ⟨by decide, by decide⟩ rfl (kR15 hS4406.1 ta0) (Nat.le_of_ble_eq_true rfl) rfl rfl (by decide) (by decide) (k_X12_needs hS4406.1 ta0 (by decide)) ?_
      rintro cn' K' N' I4419 R4420 L4421 ⟨rfl, rfl, rfl, rfl, g4422, w4424, -⟩
      have hS4425 := hS4406.tr g4422 (by decide +kernel) (by decide +kernel)
      have c4426 : I4419 a1 0 = v29 := (g4422.cell ta1 (by decide +kernel)).trans c4407
      have c4427 : I4419 a1 1 = v33 := (g4422.cell ta1 (by decide +kernel)).trans c4408
      have hO4428 : FrO 14 a1 T I0 I4419 := hO4410.st g4422 (by decide +kernel)
      have ov4429 := w4424.over (by rw [c4413]; omega)
      obtain ⟨v4430, c4431⟩ : ∃ v, I4419 a0 9 = v := ⟨_, rfl⟩
      have b4432 := iv15_9 hS4425.1 ta0 c4431
      obtain ⟨v4433, c4434⟩ : ∃ v, I4419 a0 13 = v := ⟨_, rfl⟩
      obtain ⟨v4435, c4436⟩ : ∃ v, I4419 a0 14 = v := ⟨_, rfl⟩
      (try rw [c4431] at ov4429)
      (try rw [c4434] at ov4429)
      (try rw [c4436] at ov4429)
      (try rw [c4413] at ov4429)
      (try rw [c4416] at ov4429)
      (try rw [c4418] at ov4429)
      refine q_iconst dX12_readAlp_46 (by decide) ?_
      intro v4437 h4438
      refine tr_istore_n dX12_readAlp_47 (by decide) (by decide) ?_
      refine tr_iload_n dX12_readAlp_48 rfl ?_
      refine q_iconst dX12_readAlp_49 (by decide) ?_
      intro v4439 h4440
      refine q_icmp_ge 85 dX12_readAlp_50 (by decide) (fun h4441 => ?_) (fun h4441 => ?_)
      · skip
        exfalso; omega
      · skip
        refine tr_iload_n dX12_readAlp_53 rfl ?_
        refine q_if_le 63 dX12_readAlp_54 (by decide) (fun h4442 => ?_) (fun h4442 => ?_)
        · skip
          refine tr_aload_n dX12_readAlp_63 rfl ?_
          refine tr_getR dX12_readAlp_64 fl12_188 (kR15 hS4425.1 ta0) d2 ?_
          obtain ⟨a4443, d4444, ta4443⟩ := rf14_10 hW0 ta1
          refine tr_getR dX12_readAlp_67 fl12_260 (kR14 hS4425.1 ta1) d4444 ?_
          refine tr_iload_n dX12_readAlp_70 rfl ?_
          refine tr_aload_n dX12_readAlp_71 rfl ?_
          refine q_iconst dX12_readAlp_72 (by decide) ?_
          intro v4445 h4446
          refine q_bipush dX12_readAlp_73 (by decide +kernel) ?_
          intro v4447 h4448
          refine q_callVi hE (M' := mX12_readWhole) (as := [_, _]) dX12_readAlp_75 lk12_161 inX12_readWhole seX12_readWhole myX12_readWhole (by decide) ⟨by decide, by decide⟩ rfl (kR15 hS4425.1 ta0) (Nat.le_of_ble_eq_true rfl) rfl rfl (by decide) (by decide) (k_X12_readWhole hS4425.1 ta0) ?_
          rintro v4453 cn' K' N' I4449 R4450 L4451 ⟨rfl, rfl, rfl, rfl, g4452, p4454, w4455, -⟩
          have hS4456 := hS4425.tr g4452 (by decide +kernel) (by decide +kernel)
          have c4457 : I4449 a1 0 = v29 := (g4452.cell ta1 (by decide +kernel)).trans c4426
          have c4458 : I4449 a1 1 = v33 := (g4452.cell ta1 (by decide +kernel)).trans c4427
          have b4459 : 0 ≤ v4453.toInt ∧ v4453.toInt ≤ 99 := by omega
          clear p4454
          have hO4460 : FrO 14 a1 T I0 I4449 := hO4428.st g4452 (by decide +kernel)
          have ov4461 := w4455.over (by rw [c4431]; omega)
          obtain ⟨v4462, c4463⟩ : ∃ v, I4449 a0 9 = v := ⟨_, rfl⟩
          have b4464 := iv15_9 hS4456.1 ta0 c4463
          obtain ⟨v4465, c4466⟩ : ∃ v, I4449 a0 13 = v := ⟨_, rfl⟩
          obtain ⟨v4467, c4468⟩ : ∃ v, I4449 a0 14 = v := ⟨_, rfl⟩
          (try rw [c4463] at ov4461)
          (try rw [c4466] at ov4461)
          (try rw [c4468] at ov4461)
          (try rw [c4431] at ov4461)
          (try rw [c4434] at ov4461)
          (try rw [c4436] at ov4461)
          refine q_iast dX12_readAlp_78 (kR53 hS4456.1 ta4443) (ti_in (nR53 hS4456.1 ta4443) (by omega) (by omega)) hS4456 ta4443 (iokF rfl) rfl (by rfl) ?_
          intro I4469 hS4470 e4472 f4471
          have c4473 : I4469 a1 0 = v29 := (f4471 _ _ (fun q => by have z := ta1; rw [q.1, ta4443] at z; exact absurd z (by decide))).trans c4457
          have c4474 : I4469 a1 1 = v33 := (f4471 _ _ (fun q => by have z := ta1; rw [q.1, ta4443] at z; exact absurd z (by decide))).trans c4458
          have c4475 : I4469 a0 9 = v4462 := (f4471 _ _ (fun q => by have z := ta0; rw [q.1, ta4443] at z; exact absurd z (by decide))).trans c4463
          have c4476 : I4469 a0 13 = v4465 := (f4471 _ _ (fun q => by have z := ta0; rw [q.1, ta4443] at z; exact absurd z (by decide))).trans c4466
          have c4477 : I4469 a0 14 = v4467 := (f4471 _ _ (fun q => by have z := ta0; rw [q.1, ta4443] at z; exact absurd z (by decide))).trans c4468
          have hO4478 : FrO 14 a1 T I0 I4469 := hO4460.put f4471 ta4443 (Or.inl (by decide))
          refine q_iincE dX12_readAlp_79 rfl (by decide) (by decide) (by intros; omega) ?_
          intro v4479 h4480
          refine tr_goto 48 dX12_readAlp_82 (by decide) ?_
          refine tr_iload_n dX12_readAlp_48 rfl ?_
          refine q_iconst dX12_readAlp_49 (by decide) ?_
          intro v4481 h4482
          refine q_icmp_ge 85 dX12_readAlp_50 (by decide) (fun h4483 => ?_) (fun h4483 => ?_)
          · skip
            exfalso; omega
          · skip
            refine tr_iload_n dX12_readAlp_53 rfl ?_
            refine q_if_le 63 dX12_readAlp_54 (by decide) (fun h4484 => ?_) (fun h4484 => ?_)
            · skip
              exfalso; omega
            · skip
              refine tr_aload_n dX12_readAlp_57 rfl ?_
              refine q_bipush dX12_readAlp_58 (by decide +kernel) ?_
              intro v4485 h4486
              refine q_callVv hE (M' := mX12_needsSign) (as := [_]) dX12_readAlp_60 lk12_257 inX12_needsSign seX12_needsSign myX12_needsSign (by decide) ⟨by decide, by decide⟩ rfl (kR15 hS4470.1 ta0) (Nat.le_of_ble_eq_true rfl) rfl rfl (by decide) (by decide) (k_X12_needsSign hS4470.1 ta0) ?_
              rintro cn' K' N' I4487 R4488 L4489 ⟨rfl, rfl, rfl, rfl, g4490, w4492, -⟩
              have hS4493 := hS4470.tr g4490 (by decide +kernel) (by decide +kernel)
              have c4494 : I4487 a1 0 = v29 := (g4490.cell ta1 (by decide +kernel)).trans c4473
              have c4495 : I4487 a1 1 = v33 := (g4490.cell ta1 (by decide +kernel)).trans c4474
              have hO4496 : FrO 14 a1 T I0 I4487 := hO4478.st g4490 (by decide +kernel)
              have ov4497 := w4492.over (by rw [c4475]; omega)
              obtain ⟨v4498, c4499⟩ : ∃ v, I4487 a0 9 = v := ⟨_, rfl⟩
              have b4500 := iv15_9 hS4493.1 ta0 c4499
              obtain ⟨v4501, c4502⟩ : ∃ v, I4487 a0 13 = v := ⟨_, rfl⟩
              obtain ⟨v4503, c4504⟩ : ∃ v, I4487 a0 14 = v := ⟨_, rfl⟩
              (try rw [c4499] at ov4497)
              (try rw [c4502] at ov4497)
              (try rw [c4504] at ov4497)
              (try rw [c4475] at ov4497)
              (try rw [c4476] at ov4497)
              (try rw [c4477] at ov4497)
              refine tr_aload_n dX12_readAlp_63 rfl ?_
              refine tr_getR dX12_readAlp_64 fl12_188 (kR15 hS4493.1 ta0) d2 ?_
              refine tr_getR dX12_readAlp_67 fl12_260 (kR14 hS4493.1 ta1) d4444 ?_
              refine tr_iload_n dX12_readAlp_70 rfl ?_
              refine tr_aload_n dX12_readAlp_71 rfl ?_
              refine q_iconst dX12_readAlp_72 (by decide) ?_
              intro v4505 h4506
              refine q_bipush dX12_readAlp_73 (by decide +kernel) ?_
              intro v4507 h4508
              refine q_callVi hE (M' := mX12_readWhole) (as := [_, _]) dX12_readAlp_75 lk12_161 inX12_readWhole seX12_readWhole myX12_readWhole (by decide) ⟨by decide, by decide⟩ rfl (kR15 hS4493.1 ta0) (Nat.le_of_ble_eq_true rfl) rfl rfl (by decide) (by decide) (k_X12_readWhole hS4493.1 ta0) ?_
              rintro v4513 cn' K' N' I4509 R4510 L4511 ⟨rfl, rfl, rfl, rfl, g4512, p4514, w4515, -⟩
              have hS4516 := hS4493.tr g4512 (by decide +kernel) (by decide +kernel)
              have c4517 : I4509 a1 0 = v29 := (g4512.cell ta1 (by decide +kernel)).trans c4494
              have c4518 : I4509 a1 1 = v33 := (g4512.cell ta1 (by decide +kernel)).trans c4495
              have b4519 : 0 ≤ v4513.toInt ∧ v4513.toInt ≤ 99 := by omega
              clear p4514
              have hO4520 : FrO 14 a1 T I0 I4509 := hO4496.st g4512 (by decide +kernel)
              have ov4521 := w4515.over (by rw [c4499]; omega)
              obtain ⟨v4522, c4523⟩ : ∃ v, I4509 a0 9 = v := ⟨_, rfl⟩
              have b4524 := iv15_9 hS4516.1 ta0 c4523
              obtain ⟨v4525, c4526⟩ : ∃ v, I4509 a0 13 = v := ⟨_, rfl⟩
              obtain ⟨v4527, c4528⟩ : ∃ v, I4509 a0 14 = v := ⟨_, rfl⟩
              (try rw [c4523] at ov4521)
              (try rw [c4526] at ov4521)
              (try rw [c4528] at ov4521)
              (try rw [c4499] at ov4521)
              (try rw [c4502] at ov4521)
              (try rw [c4504] at ov4521)
              refine q_iast dX12_readAlp_78 (kR53 hS4516.1 ta4443) (ti_in (nR53 hS4516.1 ta4443) (by omega) (by omega)) hS4516 ta4443 (iokF rfl) rfl (by rfl) ?_
              intro I4529 hS4530 e4532 f4531
              have c4533 : I4529 a1 0 = v29 := (f4531 _ _ (fun q => by have z := ta1; rw [q.1, ta4443] at z; exact absurd z (by decide))).trans c4517
              have c4534 : I4529 a1 1 = v33 := (f4531 _ _ (fun q => by have z := ta1; rw [q.1, ta4443] at z; exact absurd z (by decide))).trans c4518
              have c4535 : I4529 a0 9 = v4522 := (f4531 _ _ (fun q => by have z := ta0; rw [q.1, ta4443] at z; exact absurd z (by decide))).trans c4523
              have c4536 : I4529 a0 13 = v4525 := (f4531 _ _ (fun q => by have z := ta0; rw [q.1, ta4443] at z; exact absurd z (by decide))).trans c4526
              have c4537 : I4529 a0 14 = v4527 := (f4531 _ _ (fun q => by have z := ta0; rw [q.1, ta4443] at z; exact absurd z (by decide))).trans c4528
              have hO4538 : FrO 14 a1 T I0 I4529 := hO4520.put f4531 ta4443 (Or.inl (by decide))
              refine q_iincE dX12_readAlp_79 rfl (by decide) (by decide) (by intros; omega) ?_
              intro v4539 h4540
              refine tr_goto 48 dX12_readAlp_82 (by decide) ?_
              refine tr_iload_n dX12_readAlp_48 rfl ?_
              refine q_iconst dX12_readAlp_49 (by decide) ?_
              intro v4541 h4542
              refine q_icmp_ge 85 dX12_readAlp_50 (by decide) (fun h4543 => ?_) (fun h4543 => ?_)
              · skip
                exfalso; omega
              · skip
                refine tr_iload_n dX12_readAlp_53 rfl ?_
                refine q_if_le 63 dX12_readAlp_54 (by decide) (fun h4544 => ?_) (fun h4544 => ?_)
                · skip
                  exfalso; omega
                · skip
                  refine tr_aload_n dX12_readAlp_57 rfl ?_
                  refine q_bipush dX12_readAlp_58 (by decide +kernel) ?_
                  intro v4545 h4546
                  refine q_callVv hE (M' := mX12_needsSign) (as := [_]) dX12_readAlp_60 lk12_257 inX12_needsSign seX12_needsSign myX12_needsSign (by decide) ⟨by decide, by decide⟩ rfl (kR15 hS4530.1 ta0) (Nat.le_of_ble_eq_true rfl) rfl rfl (by decide) (by decide) (k_X12_needsSign hS4530.1 ta0) ?_
                  rintro cn' K' N' I4547 R4548 L4549 ⟨rfl, rfl, rfl, rfl, g4550, w4552, -⟩
                  have hS4553 := hS4530.tr g4550 (by decide +kernel) (by decide +kernel)
                  have c4554 : I4547 a1 0 = v29 := (g4550.cell ta1 (by decide +kernel)).trans c4533
                  have c4555 : I4547 a1 1 = v33 := (g4550.cell ta1 (by decide +kernel)).trans c4534
                  have hO4556 : FrO 14 a1 T I0 I4547 := hO4538.st g4550 (by decide +kernel)
                  have ov4557 := w4552.over (by rw [c4535]; omega)
                  obtain ⟨v4558, c4559⟩ : ∃ v, I4547 a0 9 = v := ⟨_, rfl⟩
                  have b4560 := iv15_9 hS4553.1 ta0 c4559
                  obtain ⟨v4561, c4562⟩ : ∃ v, I4547 a0 13 = v := ⟨_, rfl⟩
                  obtain ⟨v4563, c4564⟩ : ∃ v, I4547 a0 14 = v := ⟨_, rfl⟩
                  (try rw [c4559] at ov4557)
                  (try rw [c4562] at ov4557)
                  (try rw [c4564] at ov4557)
                  (try rw [c4535] at ov4557)
                  (try rw [c4536] at ov4557)
                  (try rw [c4537] at ov4557)
                  refine tr_aload_n dX12_readAlp_63 rfl ?_
                  refine tr_getR dX12_readAlp_64 fl12_188 (kR15 hS4553.1 ta0) d2 ?_
                  refine tr_getR dX12_readAlp_67 fl12_260 (kR14 hS4553.1 ta1) d4444 ?_
                  refine tr_iload_n dX12_readAlp_70 rfl ?_
                  refine tr_aload_n dX12_readAlp_71 rfl ?_
                  refine q_iconst dX12_readAlp_72 (by decide) ?_
                  intro v4565 h4566
                  refine q_bipush dX12_readAlp_73 (by decide +kernel) ?_
                  intro v4567 h4568
                  refine q_callVi hE (M' := mX12_readWhole) (as := [_, _]) dX12_readAlp_75 lk12_161 inX12_readWhole seX12_readWhole myX12_readWhole (by decide) ⟨by decide, by decide⟩ rfl (kR15 hS4553.1 ta0) (Nat.le_of_ble_eq_true rfl) rfl rfl (by decide) (by decide) (k_X12_readWhole hS4553.1 ta0) ?_
                  rintro v4573 cn' K' N' I4569 R4570 L4571 ⟨rfl, rfl, rfl, rfl, g4572, p4574, w4575, -⟩
                  have hS4576 := hS4553.tr g4572 (by decide +kernel) (by decide +kernel)
                  have c4577 : I4569 a1 0 = v29 := (g4572.cell ta1 (by decide +kernel)).trans c4554
                  have c4578 : I4569 a1 1 = v33 := (g4572.cell ta1 (by decide +kernel)).trans c4555
                  have b4579 : 0 ≤ v4573.toInt ∧ v4573.toInt ≤ 99 := by omega
                  clear p4574
                  have hO4580 : FrO 14 a1 T I0 I4569 := hO4556.st g4572 (by decide +kernel)
                  have ov4581 := w4575.over (by rw [c4559]; omega)
                  obtain ⟨v4582, c4583⟩ : ∃ v, I4569 a0 9 = v := ⟨_, rfl⟩
                  have b4584 := iv15_9 hS4576.1 ta0 c4583
                  obtain ⟨v4585, c4586⟩ : ∃ v, I4569 a0 13 = v := ⟨_, rfl⟩
                  obtain ⟨v4587, c4588⟩ : ∃ v, I4569 a0 14 = v := ⟨_, rfl⟩
                  (try rw [c4583] at ov4581)
                  (try rw [c4586] at ov4581)
                  (try rw [c4588] at ov4581)
                  (try rw [c4559] at ov4581)
                  (try rw [c4562] at ov4581)
                  (try rw [c4564] at ov4581)
                  refine q_iast dX12_readAlp_78 (kR53 hS4576.1 ta4443) (ti_in (nR53 hS4576.1 ta4443) (by omega) (by omega)) hS4576 ta4443 (iokF rfl) rfl (by rfl) ?_
                  intro I4589 hS4590 e4592 f4591
                  have c4593 : I4589 a1 0 = v29 := (f4591 _ _ (fun q => by have z := ta1; rw [q.1, ta4443] at z; exact absurd z (by decide))).trans c4577
                  have c4594 : I4589 a1 1 = v33 := (f4591 _ _ (fun q => by have z := ta1; rw [q.1, ta4443] at z; exact absurd z (by decide))).trans c4578
                  have c4595 : I4589 a0 9 = v4582 := (f4591 _ _ (fun q => by have z := ta0; rw [q.1, ta4443] at z; exact absurd z (by decide))).trans c4583
                  have c4596 : I4589 a0 13 = v4585 := (f4591 _ _ (fun q => by have z := ta0; rw [q.1, ta4443] at z; exact absurd z (by decide))).trans c4586
                  have c4597 : I4589 a0 14 = v4587 := (f4591 _ _ (fun q => by have z := ta0; rw [q.1, ta4443] at z; exact absurd z (by decide))).trans c4588
                  have hO4598 : FrO 14 a1 T I0 I4589 := hO4580.put f4591 ta4443 (Or.inl (by decide))
                  refine q_iincE dX12_readAlp_79 rfl (by decide) (by decide) (by intros; omega) ?_
                  intro v4599 h4600
                  refine tr_goto 48 dX12_readAlp_82 (by decide) ?_
                  refine tr_iload_n dX12_readAlp_48 rfl ?_
                  refine q_iconst dX12_readAlp_49 (by decide) ?_
                  intro v4601 h4602
                  refine q_icmp_ge 85 dX12_readAlp_50 (by decide) (fun h4603 => ?_) (fun h4603 => ?_)
                  · skip
                    exfalso; omega
                  · skip
                    refine tr_iload_n dX12_readAlp_53 rfl ?_
                    refine q_if_le 63 dX12_readAlp_54 (by decide) (fun h4604 => ?_) (fun h4604 => ?_)
                    · skip
                      exfalso; omega
                    · skip
                      refine tr_aload_n dX12_readAlp_57 rfl ?_
                      refine q_bipush dX12_readAlp_58 (by decide +kernel) ?_
                      intro v4605 h4606
                      refine q_callVv hE (M' := mX12_needsSign) (as := [_]) dX12_readAlp_60 lk12_257 inX12_needsSign seX12_needsSign myX12_needsSign (by decide) ⟨by decide, by decide⟩ rfl (kR15 hS4590.1 ta0) (Nat.le_of_ble_eq_true rfl) rfl rfl (by decide) (by decide) (k_X12_needsSign hS4590.1 ta0) ?_
                      rintro cn' K' N' I4607 R4608 L4609 ⟨rfl, rfl, rfl, rfl, g4610, w4612, -⟩
                      have hS4613 := hS4590.tr g4610 (by decide +kernel) (by decide +kernel)
                      have c4614 : I4607 a1 0 = v29 := (g4610.cell ta1 (by decide +kernel)).trans c4593
                      have c4615 : I4607 a1 1 = v33 := (g4610.cell ta1 (by decide +kernel)).trans c4594
                      have hO4616 : FrO 14 a1 T I0 I4607 := hO4598.st g4610 (by decide +kernel)
                      have ov4617 := w4612.over (by rw [c4595]; omega)
                      obtain ⟨v4618, c4619⟩ : ∃ v, I4607 a0 9 = v := ⟨_, rfl⟩
                      have b4620 := iv15_9 hS4613.1 ta0 c4619
                      obtain ⟨v4621, c4622⟩ : ∃ v, I4607 a0 13 = v := ⟨_, rfl⟩
                      obtain ⟨v4623, c4624⟩ : ∃ v, I4607 a0 14 = v := ⟨_, rfl⟩
                      (try rw [c4619] at ov4617)
                      (try rw [c4622] at ov4617)
                      (try rw [c4624] at ov4617)
                      (try rw [c4595] at ov4617)
                      (try rw [c4596] at ov4617)
                      (try rw [c4597] at ov4617)
                      refine tr_aload_n dX12_readAlp_63 rfl ?_
                      refine tr_getR dX12_readAlp_64 fl12_188 (kR15 hS4613.1 ta0) d2 ?_
                      refine tr_getR dX12_readAlp_67 fl12_260 (kR14 hS4613.1 ta1) d4444 ?_
                      refine tr_iload_n dX12_readAlp_70 rfl ?_
                      refine tr_aload_n dX12_readAlp_71 rfl ?_
                      refine q_iconst dX12_readAlp_72 (by decide) ?_
                      intro v4625 h4626
                      refine q_bipush dX12_readAlp_73 (by decide +kernel) ?_
                      intro v4627 h4628
                      refine q_callVi hE (M' := mX12_readWhole) (as := [_, _]) dX12_readAlp_75 lk12_161 inX12_readWhole seX12_readWhole myX12_readWhole (by decide) ⟨by decide, by decide⟩ rfl (kR15 hS4613.1 ta0) (Nat.le_of_ble_eq_true rfl) rfl rfl (by decide) (by decide) (k_X12_readWhole hS4613.1 ta0) ?_
                      rintro v4633 cn' K' N' I4629 R4630 L4631 ⟨rfl, rfl, rfl, rfl, g4632, p4634, w4635, -⟩
                      have hS4636 := hS4613.tr g4632 (by decide +kernel) (by decide +kernel)
                      have c4637 : I4629 a1 0 = v29 := (g4632.cell ta1 (by decide +kernel)).trans c4614
                      have c4638 : I4629 a1 1 = v33 := (g4632.cell ta1 (by decide +kernel)).trans c4615
                      have b4639 : 0 ≤ v4633.toInt ∧ v4633.toInt ≤ 99 := by omega
                      clear p4634
                      have hO4640 : FrO 14 a1 T I0 I4629 := hO4616.st g4632 (by decide +kernel)
                      have ov4641 := w4635.over (by rw [c4619]; omega)
                      obtain ⟨v4642, c4643⟩ : ∃ v, I4629 a0 9 = v := ⟨_, rfl⟩
                      have b4644 := iv15_9 hS4636.1 ta0 c4643
                      obtain ⟨v4645, c4646⟩ : ∃ v, I4629 a0 13 = v := ⟨_, rfl⟩
                      obtain ⟨v4647, c4648⟩ : ∃ v, I4629 a0 14 = v := ⟨_, rfl⟩
                      (try rw [c4643] at ov4641)
                      (try rw [c4646] at ov4641)
                      (try rw [c4648] at ov4641)
                      (try rw [c4619] at ov4641)
                      (try rw [c4622] at ov4641)
                      (try rw [c4624] at ov4641)
                      refine q_iast dX12_readAlp_78 (kR53 hS4636.1 ta4443) (ti_in (nR53 hS4636.1 ta4443) (by omega) (by omega)) hS4636 ta4443 (iokF rfl) rfl (by rfl) ?_
                      intro I4649 hS4650 e4652 f4651
                      have c4653 : I4649 a1 0 = v29 := (f4651 _ _ (fun q => by have z := ta1; rw [q.1, ta4443] at z; exact absurd z (by decide))).trans c4637
                      have c4654 : I4649 a1 1 = v33 := (f4651 _ _ (fun q => by have z := ta1; rw [q.1, ta4443] at z; exact absurd z (by decide))).trans c4638
                      have c4655 : I4649 a0 9 = v4642 := (f4651 _ _ (fun q => by have z := ta0; rw [q.1, ta4443] at z; exact absurd z (by decide))).trans c4643
                      have c4656 : I4649 a0 13 = v4645 := (f4651 _ _ (fun q => by have z := ta0; rw [q.1, ta4443] at z; exact absurd z (by decide))).trans c4646
                      have c4657 : I4649 a0 14 = v4647 := (f4651 _ _ (fun q => by have z := ta0; rw [q.1, ta4443] at z; exact absurd z (by decide))).trans c4648
                      have hO4658 : FrO 14 a1 T I0 I4649 := hO4640.put f4651 ta4443 (Or.inl (by decide))
                      refine q_iincE dX12_readAlp_79 rfl (by decide) (by decide) (by intros; omega) ?_
                      intro v4659 h4660
                      refine tr_goto 48 dX12_readAlp_82 (by decide) ?_
                      refine tr_iload_n dX12_readAlp_48 rfl ?_
                      refine q_iconst dX12_readAlp_49 (by decide) ?_
                      intro v4661 h4662
                      refine q_icmp_ge 85 dX12_readAlp_50 (by decide) (fun h4663 => ?_) (fun h4663 => ?_)
                      · skip
                        exfalso; omega
                      · skip
                        refine tr_iload_n dX12_readAlp_53 rfl ?_
                        refine q_if_le 63 dX12_readAlp_54 (by decide) (fun h4664 => ?_) (fun h4664 => ?_)
                        · skip
                          exfalso; omega
                        · skip
                          refine tr_aload_n dX12_readAlp_57 rfl ?_
                          refine q_bipush dX12_readAlp_58 (by decide +kernel) ?_
                          intro v4665 h4666
                          refine q_callVv hE (M' := mX12_needsSign) (as := [_]) dX12_readAlp_60 lk12_257 inX12_needsSign seX12_needsSign myX12_needsSign (by decide) ⟨by decide, by decide⟩ rfl (kR15 hS4650.1 ta0) (Nat.le_of_ble_eq_true rfl) rfl rfl (by decide) (by decide) (k_X12_needsSign hS4650.1 ta0) ?_
                          rintro cn' K' N' I4667 R4668 L4669 ⟨rfl, rfl, rfl, rfl, g4670, w4672, -⟩
                          have hS4673 := hS4650.tr g4670 (by decide +kernel) (by decide +kernel)
                          have c4674 : I4667 a1 0 = v29 := (g4670.cell ta1 (by decide +kernel)).trans c4653
                          have c4675 : I4667 a1 1 = v33 := (g4670.cell ta1 (by decide +kernel)).trans c4654
                          have hO4676 : FrO 14 a1 T I0 I4667 := hO4658.st g4670 (by decide +kernel)
                          have ov4677 := w4672.over (by rw [c4655]; omega)
                          obtain ⟨v4678, c4679⟩ : ∃ v, I4667 a0 9 = v := ⟨_, rfl⟩
                          have b4680 := iv15_9 hS4673.1 ta0 c4679
                          obtain ⟨v4681, c4682⟩ : ∃ v, I4667 a0 13 = v := ⟨_, rfl⟩
                          obtain ⟨v4683, c4684⟩ : ∃ v, I4667 a0 14 = v := ⟨_, rfl⟩
                          (try rw [c4679] at ov4677)
                          (try rw [c4682] at ov4677)
                          (try rw [c4684] at ov4677)
                          (try rw [c4655] at ov4677)
                          (try rw [c4656] at ov4677)
                          (try rw [c4657] at ov4677)
                          refine tr_aload_n dX12_readAlp_63 rfl ?_
                          refine tr_getR dX12_readAlp_64 fl12_188 (kR15 hS4673.1 ta0) d2 ?_
                          refine tr_getR dX12_readAlp_67 fl12_260 (kR14 hS4673.1 ta1) d4444 ?_
                          refine tr_iload_n dX12_readAlp_70 rfl ?_
                          refine tr_aload_n dX12_readAlp_71 rfl ?_
                          refine q_iconst dX12_readAlp_72 (by decide) ?_
                          intro v4685 h4686
                          refine q_bipush dX12_readAlp_73 (by decide +kernel) ?_
                          intro v4687 h4688
                          refine q_callVi hE (M' := mX12_readWhole) (as := [_, _]) dX12_readAlp_75 lk12_161 inX12_readWhole seX12_readWhole myX12_readWhole (by decide) ⟨by decide, by decide⟩ rfl (kR15 hS4673.1 ta0) (Nat.le_of_ble_eq_true rfl) rfl rfl (by decide) (by decide) (k_X12_readWhole hS4673.1 ta0) ?_
                          rintro v4693 cn' K' N' I4689 R4690 L4691 ⟨rfl, rfl, rfl, rfl, g4692, p4694, w4695, -⟩
                          have hS4696 := hS4673.tr g4692 (by decide +kernel) (by decide +kernel)
                          have c4697 : I4689 a1 0 = v29 := (g4692.cell ta1 (by decide +kernel)).trans c4674
                          have c4698 : I4689 a1 1 = v33 := (g4692.cell ta1 (by decide +kernel)).trans c4675
                          have b4699 : 0 ≤ v4693.toInt ∧ v4693.toInt ≤ 99 := by omega
                          clear p4694
                          have hO4700 : FrO 14 a1 T I0 I4689 := hO4676.st g4692 (by decide +kernel)
                          have ov4701 := w4695.over (by rw [c4679]; omega)
                          obtain ⟨v4702, c4703⟩ : ∃ v, I4689 a0 9 = v := ⟨_, rfl⟩
                          have b4704 := iv15_9 hS4696.1 ta0 c4703
                          obtain ⟨v4705, c4706⟩ : ∃ v, I4689 a0 13 = v := ⟨_, rfl⟩
                          obtain ⟨v4707, c4708⟩ : ∃ v, I4689 a0 14 = v := ⟨_, rfl⟩
                          (try rw [c4703] at ov4701)
                          (try rw [c4706] at ov4701)
                          (try rw [c4708] at ov4701)
                          (try rw [c4679] at ov4701)
                          (try rw [c4682] at ov4701)
                          (try rw [c4684] at ov4701)
                          refine q_iast dX12_readAlp_78 (kR53 hS4696.1 ta4443) (ti_in (nR53 hS4696.1 ta4443) (by omega) (by omega)) hS4696 ta4443 (iokF rfl) rfl (by rfl) ?_
                          intro I4709 hS4710 e4712 f4711
                          have c4713 : I4709 a1 0 = v29 := (f4711 _ _ (fun q => by have z := ta1; rw [q.1, ta4443] at z; exact absurd z (by decide))).trans c4697
                          have c4714 : I4709 a1 1 = v33 := (f4711 _ _ (fun q => by have z := ta1; rw [q.1, ta4443] at z; exact absurd z (by decide))).trans c4698
                          have c4715 : I4709 a0 9 = v4702 := (f4711 _ _ (fun q => by have z := ta0; rw [q.1, ta4443] at z; exact absurd z (by decide))).trans c4703
                          have c4716 : I4709 a0 13 = v4705 := (f4711 _ _ (fun q => by have z := ta0; rw [q.1, ta4443] at z; exact absurd z (by decide))).trans c4706
                          have c4717 : I4709 a0 14 = v4707 := (f4711 _ _ (fun q => by have z := ta0; rw [q.1, ta4443] at z; exact absurd z (by decide))).trans c4708
                          have hO4718 : FrO 14 a1 T I0 I4709 := hO4700.put f4711 ta4443 (Or.inl (by decide))
                          refine q_iincE dX12_readAlp_79 rfl (by decide) (by decide) (by intros; omega) ?_
                          intro v4719 h4720
                          refine tr_goto 48 dX12_readAlp_82 (by decide) ?_
                          refine tr_iload_n dX12_readAlp_48 rfl ?_
                          refine q_iconst dX12_readAlp_49 (by decide) ?_
                          intro v4721 h4722
                          refine q_icmp_ge 85 dX12_readAlp_50 (by decide) (fun h4723 => ?_) (fun h4723 => ?_)
                          · skip
                            refine tr_aload_n dX12_readAlp_85 rfl ?_
                            refine q_getI dX12_readAlp_86 fl12_99 (kR15 hS4710.1 ta0) c4715 ?_
                            refine q_iconst dX12_readAlp_89 (by decide) ?_
                            intro v4724 h4725
                            refine q_icmp_ne 94 dX12_readAlp_90 (by decide) (fun h4726 => ?_) (fun h4726 => ?_)
                            · skip
                              exfalso; omega
                            · skip
                              have eF := hF.eq
                              have eP := hP.eq
                              obtain ⟨v4727, c4728⟩ : ∃ v, I4709 a0 10 = v := ⟨_, rfl⟩
                              have b4729 := iv15_10 hS4710.1 ta0 c4728
                              obtain ⟨v4730, c4731⟩ : ∃ v, I4709 a0 11 = v := ⟨_, rfl⟩
                              obtain ⟨y4732, c4733⟩ : ∃ v, L4691 a0 15 = v := ⟨_, rfl⟩
                              obtain ⟨v4734, c4735⟩ : ∃ v, I4709 a0 12 = v := ⟨_, rfl⟩
                              obtain ⟨v4736, c4737⟩ : ∃ v, I4709 a0 8 = v := ⟨_, rfl⟩
                              have b4738 := iv15_8 hS4710.1 ta0 c4737
                              exact tr_vret hZ dX12_readAlp_93 rfl (by decide) (by decide) ⟨rfl, rfl, rfl, rfl, rfl, hS4710, (fun dr hd => (Option.some.inj (d2.symm.trans hd)) ▸ hO4718), (Or.inr (⟨(by (try rw [w107]); first | done | with_reducible assumption | omega), (by (try rw [w107]); (try rw [c4715]); first | done | with_reducible assumption | omega), (by (try rw [w107]); (try rw [c4716]); first | done | with_reducible assumption | omega), (by (try rw [w107]); (try rw [c4717]); first | done | with_reducible assumption | omega), trivial⟩)), trivial⟩
                          · skip
                            exfalso; omega
        · skip
          exfalso; omega
    · skip
      obtain ⟨v4739, c4740⟩ : ∃ v, I121 a0 9 = v := ⟨_, rfl⟩
      have b4741 := iv15_9 hS129.1 ta0 c4740
      rw [c4740] at p157
      obtain ⟨v4742, c4743⟩ : ∃ v, I121 a0 13 = v := ⟨_, rfl⟩
      rw [c4743] at p158
      obtain ⟨v4744, c4745⟩ : ∃ v, I121 a0 14 = v := ⟨_, rfl⟩
      rw [c4745] at p159
      replace hF := hF.neg (by omega)
      replace hP := hP.neg (by omega)
      replace hF := hF.pos (by omega)
      replace hP := hP.pos (by omega)
      refine tr_istore_n dX12_readAlp_30 (by decide) (by decide) ?_
      refine tr_aload_n dX12_readAlp_31 rfl ?_
      refine tr_ldcS dX12_readAlp_32 ld12_253 ?_
      refine q_iconst dX12_readAlp_34 (by decide) ?_
      intro v4746 h4747
      refine q_iconst dX12_readAlp_35 (by decide) ?_
      intro v4748 h4749
      refine q_callVi hE (M' := mX12_readPart) (as := [_, _, _]) dX12_readAlp_36 lk12_249 inX12_readPart seX12_readPart myX12_readPart (by decide) ⟨by decide, by decide⟩ rfl (kR15 hS129.1 ta0) (Nat.le_of_ble_eq_true rfl) rfl rfl (by decide) (by decide) (k_X12_readPart hS129.1 ta0 (by decide)) ?_
      rintro v4754 cn' K' N' I4750 R4751 L4752 ⟨rfl, rfl, rfl, rfl, g4753, p4755, w4756, -⟩
      have hS4757 := hS129.tr g4753 (by decide +kernel) (by decide +kernel)
      have c4758 : I4750 a1 0 = v29 := (g4753.cell ta1 (by decide +kernel)).trans c130
      have c4759 : I4750 a1 1 = v33 := (g4753.cell ta1 (by decide +kernel)).trans c131
      have b4760 : 1 ≤ v4754.toInt ∧ v4754.toInt ≤ 4 := by omega
      clear p4755
      have hO4761 : FrO 14 a1 T I0 I4750 := hO132.st g4753 (by decide +kernel)
      have ov4762 := w4756.over (by rw [c4740]; omega)
      obtain ⟨v4763, c4764⟩ : ∃ v, I4750 a0 9 = v := ⟨_, rfl⟩
      have b4765 := iv15_9 hS4757.1 ta0 c4764
      obtain ⟨v4766, c4767⟩ : ∃ v, I4750 a0 13 = v := ⟨_, rfl⟩
      obtain ⟨v4768, c4769⟩ : ∃ v, I4750 a0 14 = v := ⟨_, rfl⟩
      (try rw [c4764] at ov4762)
      (try rw [c4767] at ov4762)
      (try rw [c4769] at ov4762)
      (try rw [c4740] at ov4762)
      (try rw [c4743] at ov4762)
      (try rw [c4745] at ov4762)
      refine tr_istore_n dX12_readAlp_39 (by decide) (by decide) ?_
      refine tr_aload_n dX12_readAlp_40 rfl ?_
      refine tr_ldcS dX12_readAlp_41 ld12_255 ?_
      refine q_callVv hE (M' := mX12_needs) (as := [_]) dX12_readAlp_43 lk12_157 inX12_needs seX12_needs myX12_needs (by decide) ⟨by decide, by decide⟩ rfl (kR15 hS4757.1 ta0) (Nat.le_of_ble_eq_true rfl) rfl rfl (by decide) (by decide) (k_X12_needs hS4757.1 ta0 (by decide)) ?_
      rintro cn' K' N' I4770 R4771 L4772 ⟨rfl, rfl, rfl, rfl, g4773, w4775, -⟩
      have hS4776 := hS4757.tr g4773 (by decide +kernel) (by decide +kernel)
      have c4777 : I4770 a1 0 = v29 := (g4773.cell ta1 (by decide +kernel)).trans c4758
      have c4778 : I4770 a1 1 = v33 := (g4773.cell ta1 (by decide +kernel)).trans c4759
      have hO4779 : FrO 14 a1 T I0 I4770 := hO4761.st g4773 (by decide +kernel)
      have ov4780 := w4775.over (by rw [c4764]; omega)
      obtain ⟨v4781, c4782⟩ : ∃ v, I4770 a0 9 = v := ⟨_, rfl⟩
      have b4783 := iv15_9 hS4776.1 ta0 c4782
      obtain ⟨v4784, c4785⟩ : ∃ v, I4770 a0 13 = v := ⟨_, rfl⟩
      obtain ⟨v4786, c4787⟩ : ∃ v, I4770 a0 14 = v := ⟨_, rfl⟩
      (try rw [c4782] at ov4780)
      (try rw [c4785] at ov4780)
      (try rw [c4787] at ov4780)
      (try rw [c4764] at ov4780)
      (try rw [c4767] at ov4780)
      (try rw [c4769] at ov4780)
      refine q_iconst dX12_readAlp_46 (by decide) ?_
      intro v4788 h4789
      refine tr_istore_n dX12_readAlp_47 (by decide) (by decide) ?_
      refine tr_iload_n dX12_readAlp_48 rfl ?_
      refine q_iconst dX12_readAlp_49 (by decide) ?_
      intro v4790 h4791
      refine q_icmp_ge 85 dX12_readAlp_50 (by decide) (fun h4792 => ?_) (fun h4792 => ?_)
      · skip
        exfalso; omega
      · skip
        refine tr_iload_n dX12_readAlp_53 rfl ?_
        refine q_if_le 63 dX12_readAlp_54 (by decide) (fun h4793 => ?_) (fun h4793 => ?_)
        · skip
          refine tr_aload_n dX12_readAlp_63 rfl ?_
          refine tr_getR dX12_readAlp_64 fl12_188 (kR15 hS4776.1 ta0) d2 ?_
          obtain ⟨a4794, d4795, ta4794⟩ := rf14_10 hW0 ta1
          refine tr_getR dX12_readAlp_67 fl12_260 (kR14 hS4776.1 ta1) d4795 ?_
          refine tr_iload_n dX12_readAlp_70 rfl ?_
          refine tr_aload_n dX12_readAlp_71 rfl ?_
          refine q_iconst dX12_readAlp_72 (by decide) ?_
          intro v4796 h4797
          refine q_bipush dX12_readAlp_73 (by decide +kernel) ?_
          intro v4798 h4799
          refine q_callVi hE (M' := mX12_readWhole) (as := [_, _]) dX12_readAlp_75 lk12_161 inX12_readWhole seX12_readWhole myX12_readWhole (by decide) ⟨by decide, by decide⟩ rfl (kR15 hS4776.1 ta0) (Nat.le_of_ble_eq_true rfl) rfl rfl (by decide) (by decide) (k_X12_readWhole hS4776.1 ta0) ?_
          rintro v4804 cn' K' N' I4800 R4801 L4802 ⟨rfl, rfl, rfl, rfl, g4803, p4805, w4806, -⟩
          have hS4807 := hS4776.tr g4803 (by decide +kernel) (by decide +kernel)
          have c4808 : I4800 a1 0 = v29 := (g4803.cell ta1 (by decide +kernel)).trans c4777
          have c4809 : I4800 a1 1 = v33 := (g4803.cell ta1 (by decide +kernel)).trans c4778
          have b4810 : 0 ≤ v4804.toInt ∧ v4804.toInt ≤ 99 := by omega
          clear p4805
          have hO4811 : FrO 14 a1 T I0 I4800 := hO4779.st g4803 (by decide +kernel)
          have ov4812 := w4806.over (by rw [c4782]; omega)
          obtain ⟨v4813, c4814⟩ : ∃ v, I4800 a0 9 = v := ⟨_, rfl⟩
          have b4815 := iv15_9 hS4807.1 ta0 c4814
          obtain ⟨v4816, c4817⟩ : ∃ v, I4800 a0 13 = v := ⟨_, rfl⟩
          obtain ⟨v4818, c4819⟩ : ∃ v, I4800 a0 14 = v := ⟨_, rfl⟩
          (try rw [c4814] at ov4812)
          (try rw [c4817] at ov4812)
          (try rw [c4819] at ov4812)
          (try rw [c4782] at ov4812)
          (try rw [c4785] at ov4812)
          (try rw [c4787] at ov4812)
          refine q_iast dX12_readAlp_78 (kR53 hS4807.1 ta4794) (ti_in (nR53 hS4807.1 ta4794) (by omega) (by omega)) hS4807 ta4794 (iokF rfl) rfl (by rfl) ?_
          intro I4820 hS4821 e4823 f4822
          have c4824 : I4820 a1 0 = v29 := (f4822 _ _ (fun q => by have z := ta1; rw [q.1, ta4794] at z; exact absurd z (by decide))).trans c4808
          have c4825 : I4820 a1 1 = v33 := (f4822 _ _ (fun q => by have z := ta1; rw [q.1, ta4794] at z; exact absurd z (by decide))).trans c4809
          have c4826 : I4820 a0 9 = v4813 := (f4822 _ _ (fun q => by have z := ta0; rw [q.1, ta4794] at z; exact absurd z (by decide))).trans c4814
          have c4827 : I4820 a0 13 = v4816 := (f4822 _ _ (fun q => by have z := ta0; rw [q.1, ta4794] at z; exact absurd z (by decide))).trans c4817
          have c4828 : I4820 a0 14 = v4818 := (f4822 _ _ (fun q => by have z := ta0; rw [q.1, ta4794] at z; exact absurd z (by decide))).trans c4819
          have hO4829 : FrO 14 a1 T I0 I4820 := hO4811.put f4822 ta4794 (Or.inl (by decide))
          refine q_iincE dX12_readAlp_79 rfl (by decide) (by decide) (by intros; omega) ?_
          intro v4830 h4831
          refine tr_goto 48 dX12_readAlp_82 (by decide) ?_
          refine tr_iload_n dX12_readAlp_48 rfl ?_
          refine q_iconst dX12_readAlp_49 (by decide) ?_
          intro v4832 h4833
          refine q_icmp_ge 85 dX12_readAlp_50 (by decide) (fun h4834 => ?_) (fun h4834 => ?_)
          · skip
            exfalso; omega
          · skip
            refine tr_iload_n dX12_readAlp_53 rfl ?_
            refine q_if_le 63 dX12_readAlp_54 (by decide) (fun h4835 => ?_) (fun h4835 => ?_)
            · skip
              exfalso; omega
            · skip
              refine tr_aload_n dX12_readAlp_57 rfl ?_
              refine q_bipush dX12_readAlp_58 (by decide +kernel) ?_
              intro v4836 h4837
              refine q_callVv hE (M' := mX12_needsSign) (as := [_]) dX12_readAlp_60 lk12_257 inX12_needsSign seX12_needsSign myX12_needsSign (by decide) ⟨by decide, by decide⟩ rfl (kR15 hS4821.1 ta0) (Nat.le_of_ble_eq_true rfl) rfl rfl (by decide) (by decide) (k_X12_needsSign hS4821.1 ta0) ?_
              rintro cn' K' N' I4838 R4839 L4840 ⟨rfl, rfl, rfl, rfl, g4841, w4843, -⟩
              have hS4844 := hS4821.tr g4841 (by decide +kernel) (by decide +kernel)
              have c4845 : I4838 a1 0 = v29 := (g4841.cell ta1 (by decide +kernel)).trans c4824
              have c4846 : I4838 a1 1 = v33 := (g4841.cell ta1 (by decide +kernel)).trans c4825
              have hO4847 : FrO 14 a1 T I0 I4838 := hO4829.st g4841 (by decide +kernel)
              have ov4848 := w4843.over (by rw [c4826]; omega)
              obtain ⟨v4849, c4850⟩ : ∃ v, I4838 a0 9 = v := ⟨_, rfl⟩
              have b4851 := iv15_9 hS4844.1 ta0 c4850
              obtain ⟨v4852, c4853⟩ : ∃ v, I4838 a0 13 = v := ⟨_, rfl⟩
              obtain ⟨v4854, c4855⟩ : ∃ v, I4838 a0 14 = v := ⟨_, rfl⟩
              (try rw [c4850] at ov4848)
              (try rw [c4853] at ov4848)
              (try rw [c4855] at ov4848)
              (try rw [c4826] at ov4848)
              (try rw [c4827] at ov4848)
              (try rw [c4828] at ov4848)
              refine tr_aload_n dX12_readAlp_63 rfl ?_
              refine tr_getR dX12_readAlp_64 fl12_188 (kR15 hS4844.1 ta0) d2 ?_
              refine tr_getR dX12_readAlp_67 fl12_260 (kR14 hS4844.1 ta1) d4795 ?_
              refine tr_iload_n dX12_readAlp_70 rfl ?_
              refine tr_aload_n dX12_readAlp_71 rfl ?_
              refine q_iconst dX12_readAlp_72 (by decide) ?_
              intro v4856 h4857
              refine q_bipush dX12_readAlp_73 (by decide +kernel) ?_
              intro v4858 h4859
              refine q_callVi hE (M' := mX12_readWhole) (as := [_, _]) dX12_readAlp_75 lk12_161 inX12_readWhole seX12_readWhole myX12_readWhole (by decide) ⟨by decide, by decide⟩ rfl (kR15 hS4844.1 ta0) (Nat.le_of_ble_eq_true rfl) rfl rfl (by decide) (by decide) (k_X12_readWhole hS4844.1 ta0) ?_
              rintro v4864 cn' K' N' I4860 R4861 L4862 ⟨rfl, rfl, rfl, rfl, g4863, p4865, w4866, -⟩
              have hS4867 := hS4844.tr g4863 (by decide +kernel) (by decide +kernel)
              have c4868 : I4860 a1 0 = v29 := (g4863.cell ta1 (by decide +kernel)).trans c4845
              have c4869 : I4860 a1 1 = v33 := (g4863.cell ta1 (by decide +kernel)).trans c4846
              have b4870 : 0 ≤ v4864.toInt ∧ v4864.toInt ≤ 99 := by omega
              clear p4865
              have hO4871 : FrO 14 a1 T I0 I4860 := hO4847.st g4863 (by decide +kernel)
              have ov4872 := w4866.over (by rw [c4850]; omega)
              obtain ⟨v4873, c4874⟩ : ∃ v, I4860 a0 9 = v := ⟨_, rfl⟩
              have b4875 := iv15_9 hS4867.1 ta0 c4874
              obtain ⟨v4876, c4877⟩ : ∃ v, I4860 a0 13 = v := ⟨_, rfl⟩
              obtain ⟨v4878, c4879⟩ : ∃ v, I4860 a0 14 = v := ⟨_, rfl⟩
              (try rw [c4874] at ov4872)
              (try rw [c4877] at ov4872)
              (try rw [c4879] at ov4872)
              (try rw [c4850] at ov4872)
              (try rw [c4853] at ov4872)
              (try rw [c4855] at ov4872)
              refine q_iast dX12_readAlp_78 (kR53 hS4867.1 ta4794) (ti_in (nR53 hS4867.1 ta4794) (by omega) (by omega)) hS4867 ta4794 (iokF rfl) rfl (by rfl) ?_
              intro I4880 hS4881 e4883 f4882
              have c4884 : I4880 a1 0 = v29 := (f4882 _ _ (fun q => by have z := ta1; rw [q.1, ta4794] at z; exact absurd z (by decide))).trans c4868
              have c4885 : I4880 a1 1 = v33 := (f4882 _ _ (fun q => by have z := ta1; rw [q.1, ta4794] at z; exact absurd z (by decide))).trans c4869
              have c4886 : I4880 a0 9 = v4873 := (f4882 _ _ (fun q => by have z := ta0; rw [q.1, ta4794] at z; exact absurd z (by decide))).trans c4874
              have c4887 : I4880 a0 13 = v4876 := (f4882 _ _ (fun q => by have z := ta0; rw [q.1, ta4794] at z; exact absurd z (by decide))).trans c4877
              have c4888 : I4880 a0 14 = v4878 := (f4882 _ _ (fun q => by have z := ta0; rw [q.1, ta4794] at z; exact absurd z (by decide))).trans c4879
              have hO4889 : FrO 14 a1 T I0 I4880 := hO4871.put f4882 ta4794 (Or.inl (by decide))
              refine q_iincE dX12_readAlp_79 rfl (by decide) (by decide) (by intros; omega) ?_
              intro v4890 h4891
              refine tr_goto 48 dX12_readAlp_82 (by decide) ?_
              refine tr_iload_n dX12_readAlp_48 rfl ?_
              refine q_iconst dX12_readAlp_49 (by decide) ?_
              intro v4892 h4893
              refine q_icmp_ge 85 dX12_readAlp_50 (by decide) (fun h4894 => ?_) (fun h4894 => ?_)
              · skip
                exfalso; omega
              · skip
                refine tr_iload_n dX12_readAlp_53 rfl ?_
                refine q_if_le 63 dX12_readAlp_54 (by decide) (fun h4895 => ?_) (fun h4895 => ?_)
                · skip
                  exfalso; omega
                · skip
                  refine tr_aload_n dX12_readAlp_57 rfl ?_
                  refine q_bipush dX12_readAlp_58 (by decide +kernel) ?_
                  intro v4896 h4897
                  refine q_callVv hE (M' := mX12_needsSign) (as := [_]) dX12_readAlp_60 lk12_257 inX12_needsSign seX12_needsSign myX12_needsSign (by decide) ⟨by decide, by decide⟩ rfl (kR15 hS4881.1 ta0) (Nat.le_of_ble_eq_true rfl) rfl rfl (by decide) (by decide) (k_X12_needsSign hS4881.1 ta0) ?_
                  rintro cn' K' N' I4898 R4899 L4900 ⟨rfl, rfl, rfl, rfl, g4901, w4903, -⟩
                  have hS4904 := hS4881.tr g4901 (by decide +kernel) (by decide +kernel)
                  have c4905 : I4898 a1 0 = v29 := (g4901.cell ta1 (by decide +kernel)).trans c4884
                  have c4906 : I4898 a1 1 = v33 := (g4901.cell ta1 (by decide +kernel)).trans c4885
                  have hO4907 : FrO 14 a1 T I0 I4898 := hO4889.st g4901 (by decide +kernel)
                  have ov4908 := w4903.over (by rw [c4886]; omega)
                  obtain ⟨v4909, c4910⟩ : ∃ v, I4898 a0 9 = v := ⟨_, rfl⟩
                  have b4911 := iv15_9 hS4904.1 ta0 c4910
                  obtain ⟨v4912, c4913⟩ : ∃ v, I4898 a0 13 = v := ⟨_, rfl⟩
                  obtain ⟨v4914, c4915⟩ : ∃ v, I4898 a0 14 = v := ⟨_, rfl⟩
                  (try rw [c4910] at ov4908)
                  (try rw [c4913] at ov4908)
                  (try rw [c4915] at ov4908)
                  (try rw [c4886] at ov4908)
                  (try rw [c4887] at ov4908)
                  (try rw [c4888] at ov4908)
                  refine tr_aload_n dX12_readAlp_63 rfl ?_
                  refine tr_getR dX12_readAlp_64 fl12_188 (kR15 hS4904.1 ta0) d2 ?_
                  refine tr_getR dX12_readAlp_67 fl12_260 (kR14 hS4904.1 ta1) d4795 ?_
                  refine tr_iload_n dX12_readAlp_70 rfl ?_
                  refine tr_aload_n dX12_readAlp_71 rfl ?_
                  refine q_iconst dX12_readAlp_72 (by decide) ?_
                  intro v4916 h4917
                  refine q_bipush dX12_readAlp_73 (by decide +kernel) ?_
                  intro v4918 h4919
                  refine q_callVi hE (M' := mX12_readWhole) (as := [_, _]) dX12_readAlp_75 lk12_161 inX12_readWhole seX12_readWhole myX12_readWhole (by decide) ⟨by decide, by decide⟩ rfl (kR15 hS4904.1 ta0) (Nat.le_of_ble_eq_true rfl) rfl rfl (by decide) (by decide) (k_X12_readWhole hS4904.1 ta0) ?_
                  rintro v4924 cn' K' N' I4920 R4921 L4922 ⟨rfl, rfl, rfl, rfl, g4923, p4925, w4926, -⟩
                  have hS4927 := hS4904.tr g4923 (by decide +kernel) (by decide +kernel)
                  have c4928 : I4920 a1 0 = v29 := (g4923.cell ta1 (by decide +kernel)).trans c4905
                  have c4929 : I4920 a1 1 = v33 := (g4923.cell ta1 (by decide +kernel)).trans c4906
                  have b4930 : 0 ≤ v4924.toInt ∧ v4924.toInt ≤ 99 := by omega
                  clear p4925
                  have hO4931 : FrO 14 a1 T I0 I4920 := hO4907.st g4923 (by decide +kernel)
                  have ov4932 := w4926.over (by rw [c4910]; omega)
                  obtain ⟨v4933, c4934⟩ : ∃ v, I4920 a0 9 = v := ⟨_, rfl⟩
                  have b4935 := iv15_9 hS4927.1 ta0 c4934
                  obtain ⟨v4936, c4937⟩ : ∃ v, I4920 a0 13 = v := ⟨_, rfl⟩
                  obtain ⟨v4938, c4939⟩ : ∃ v, I4920 a0 14 = v := ⟨_, rfl⟩
                  (try rw [c4934] at ov4932)
                  (try rw [c4937] at ov4932)
                  (try rw [c4939] at ov4932)
                  (try rw [c4910] at ov4932)
                  (try rw [c4913] at ov4932)
                  (try rw [c4915] at ov4932)
                  refine q_iast dX12_readAlp_78 (kR53 hS4927.1 ta4794) (ti_in (nR53 hS4927.1 ta4794) (by omega) (by omega)) hS4927 ta4794 (iokF rfl) rfl (by rfl) ?_
                  intro I4940 hS4941 e4943 f4942
                  have c4944 : I4940 a1 0 = v29 := (f4942 _ _ (fun q => by have z := ta1; rw [q.1, ta4794] at z; exact absurd z (by decide))).trans c4928
                  have c4945 : I4940 a1 1 = v33 := (f4942 _ _ (fun q => by have z := ta1; rw [q.1, ta4794] at z; exact absurd z (by decide))).trans c4929
                  have c4946 : I4940 a0 9 = v4933 := (f4942 _ _ (fun q => by have z := ta0; rw [q.1, ta4794] at z; exact absurd z (by decide))).trans c4934
                  have c4947 : I4940 a0 13 = v4936 := (f4942 _ _ (fun q => by have z := ta0; rw [q.1, ta4794] at z; exact absurd z (by decide))).trans c4937
                  have c4948 : I4940 a0 14 = v4938 := (f4942 _ _ (fun q => by have z := ta0; rw [q.1, ta4794] at z; exact absurd z (by decide))).trans c4939
                  have hO4949 : FrO 14 a1 T I0 I4940 := hO4931.put f4942 ta4794 (Or.inl (by decide))
                  refine q_iincE dX12_readAlp_79 rfl (by decide) (by decide) (by intros; omega) ?_
                  intro v4950 h4951
                  refine tr_goto 48 dX12_readAlp_82 (by decide) ?_
                  refine tr_iload_n dX12_readAlp_48 rfl ?_
                  refine q_iconst dX12_readAlp_49 (by decide) ?_
                  intro v4952 h4953
                  refine q_icmp_ge 85 dX12_readAlp_50 (by decide) (fun h4954 => ?_) (fun h4954 => ?_)
                  · skip
                    exfalso; omega
                  · skip
                    refine tr_iload_n dX12_readAlp_53 rfl ?_
                    refine q_if_le 63 dX12_readAlp_54 (by decide) (fun h4955 => ?_) (fun h4955 => ?_)
                    · skip
                      exfalso; omega
                    · skip
                      refine tr_aload_n dX12_readAlp_57 rfl ?_
                      refine q_bipush dX12_readAlp_58 (by decide +kernel) ?_
                      intro v4956 h4957
                      refine q_callVv hE (M' := mX12_needsSign) (as := [_]) dX12_readAlp_60 lk12_257 inX12_needsSign seX12_needsSign myX12_needsSign (by decide) ⟨by decide, by decide⟩ rfl (kR15 hS4941.1 ta0) (Nat.le_of_ble_eq_true rfl) rfl rfl (by decide) (by decide) (k_X12_needsSign hS4941.1 ta0) ?_
                      rintro cn' K' N' I4958 R4959 L4960 ⟨rfl, rfl, rfl, rfl, g4961, w4963, -⟩
                      have hS4964 := hS4941.tr g4961 (by decide +kernel) (by decide +kernel)
                      have c4965 : I4958 a1 0 = v29 := (g4961.cell ta1 (by decide +kernel)).trans c4944
                      have c4966 : I4958 a1 1 = v33 := (g4961.cell ta1 (by decide +kernel)).trans c4945
                      have hO4967 : FrO 14 a1 T I0 I4958 := hO4949.st g4961 (by decide +kernel)
                      have ov4968 := w4963.over (by rw [c4946]; omega)
                      obtain ⟨v4969, c4970⟩ : ∃ v, I4958 a0 9 = v := ⟨_, rfl⟩
                      have b4971 := iv15_9 hS4964.1 ta0 c4970
                      obtain ⟨v4972, c4973⟩ : ∃ v, I4958 a0 13 = v := ⟨_, rfl⟩
                      obtain ⟨v4974, c4975⟩ : ∃ v, I4958 a0 14 = v := ⟨_, rfl⟩
                      (try rw [c4970] at ov4968)
                      (try rw [c4973] at ov4968)
                      (try rw [c4975] at ov4968)
                      (try rw [c4946] at ov4968)
                      (try rw [c4947] at ov4968)
                      (try rw [c4948] at ov4968)
                      refine tr_aload_n dX12_readAlp_63 rfl ?_
                      refine tr_getR dX12_readAlp_64 fl12_188 (kR15 hS4964.1 ta0) d2 ?_
                      refine tr_getR dX12_readAlp_67 fl12_260 (kR14 hS4964.1 ta1) d4795 ?_
                      refine tr_iload_n dX12_readAlp_70 rfl ?_
                      refine tr_aload_n dX12_readAlp_71 rfl ?_
                      refine q_iconst dX12_readAlp_72 (by decide) ?_
                      intro v4976 h4977
                      refine q_bipush dX12_readAlp_73 (by decide +kernel) ?_
                      intro v4978 h4979
                      refine q_callVi hE (M' := mX12_readWhole) (as := [_, _]) dX12_readAlp_75 lk12_161 inX12_readWhole seX12_readWhole myX12_readWhole (by decide) ⟨by decide, by decide⟩ rfl (kR15 hS4964.1 ta0) (Nat.le_of_ble_eq_true rfl) rfl rfl (by decide) (by decide) (k_X12_readWhole hS4964.1 ta0) ?_
                      rintro v4984 cn' K' N' I4980 R4981 L4982 ⟨rfl, rfl, rfl, rfl, g4983, p4985, w4986, -⟩
                      have hS4987 := hS4964.tr g4983 (by decide +kernel) (by decide +kernel)
                      have c4988 : I4980 a1 0 = v29 := (g4983.cell ta1 (by decide +kernel)).trans c4965
                      have c4989 : I4980 a1 1 = v33 := (g4983.cell ta1 (by decide +kernel)).trans c4966
                      have b4990 : 0 ≤ v4984.toInt ∧ v4984.toInt ≤ 99 := by omega
                      clear p4985
                      have hO4991 : FrO 14 a1 T I0 I4980 := hO4967.st g4983 (by decide +kernel)
                      have ov4992 := w4986.over (by rw [c4970]; omega)
                      obtain ⟨v4993, c4994⟩ : ∃ v, I4980 a0 9 = v := ⟨_, rfl⟩
                      have b4995 := iv15_9 hS4987.1 ta0 c4994
                      obtain ⟨v4996, c4997⟩ : ∃ v, I4980 a0 13 = v := ⟨_, rfl⟩
                      obtain ⟨v4998, c4999⟩ : ∃ v, I4980 a0 14 = v := ⟨_, rfl⟩
                      (try rw [c4994] at ov4992)
                      (try rw [c4997] at ov4992)
                      (try rw [c4999] at ov4992)
                      (try rw [c4970] at ov4992)
                      (try rw [c4973] at ov4992)
                      (try rw [c4975] at ov4992)
                      refine q_iast dX12_readAlp_78 (kR53 hS4987.1 ta4794) (ti_in (nR53 hS4987.1 ta4794) (by omega) (by omega)) hS4987 ta4794 (iokF rfl) rfl (by rfl) ?_
                      intro I5000 hS5001 e5003 f5002
                      have c5004 : I5000 a1 0 = v29 := (f5002 _ _ (fun q => by have z := ta1; rw [q.1, ta4794] at z; exact absurd z (by decide))).trans c4988
                      have c5005 : I5000 a1 1 = v33 := (f5002 _ _ (fun q => by have z := ta1; rw [q.1, ta4794] at z; exact absurd z (by decide))).trans c4989
                      have c5006 : I5000 a0 9 = v4993 := (f5002 _ _ (fun q => by have z := ta0; rw [q.1, ta4794] at z; exact absurd z (by decide))).trans c4994
                      have c5007 : I5000 a0 13 = v4996 := (f5002 _ _ (fun q => by have z := ta0; rw [q.1, ta4794] at z; exact absurd z (by decide))).trans c4997
                      have c5008 : I5000 a0 14 = v4998 := (f5002 _ _ (fun q => by have z := ta0; rw [q.1, ta4794] at z; exact absurd z (by decide))).trans c4999
                      have hO5009 : FrO 14 a1 T I0 I5000 := hO4991.put f5002 ta4794 (Or.inl (by decide))
                      refine q_iincE dX12_readAlp_79 rfl (by decide) (by decide) (by intros; omega) ?_
                      intro v5010 h5011
                      refine tr_goto 48 dX12_readAlp_82 (by decide) ?_
                      refine tr_iload_n dX12_readAlp_48 rfl ?_
                      refine q_iconst dX12_readAlp_49 (by decide) ?_
                      intro v5012 h5013
                      refine q_icmp_ge 85 dX12_readAlp_50 (by decide) (fun h5014 => ?_) (fun h5014 => ?_)
                      · skip
                        exfalso; omega
                      · skip
                        refine tr_iload_n dX12_readAlp_53 rfl ?_
                        refine q_if_le 63 dX12_readAlp_54 (by decide) (fun h5015 => ?_) (fun h5015 => ?_)
                        · skip
                          exfalso; omega
                        · skip
                          refine tr_aload_n dX12_readAlp_57 rfl ?_
                          refine q_bipush dX12_readAlp_58 (by decide +kernel) ?_
                          intro v5016 h5017
                          refine q_callVv hE (M' := mX12_needsSign) (as := [_]) dX12_readAlp_60 lk12_257 inX12_needsSign seX12_needsSign myX12_needsSign (by decide) ⟨by decide, by decide⟩ rfl (kR15 hS5001.1 ta0) (Nat.le_of_ble_eq_true rfl) rfl rfl (by decide) (by decide) (k_X12_needsSign hS5001.1 ta0) ?_
                          rintro cn' K' N' I5018 R5019 L5020 ⟨rfl, rfl, rfl, rfl, g5021, w5023, -⟩
                          have hS5024 := hS5001.tr g5021 (by decide +kernel) (by decide +kernel)
                          have c5025 : I5018 a1 0 = v29 := (g5021.cell ta1 (by decide +kernel)).trans c5004
                          have c5026 : I5018 a1 1 = v33 := (g5021.cell ta1 (by decide +kernel)).trans c5005
                          have hO5027 : FrO 14 a1 T I0 I5018 := hO5009.st g5021 (by decide +kernel)
                          have ov5028 := w5023.over (by rw [c5006]; omega)
                          obtain ⟨v5029, c5030⟩ : ∃ v, I5018 a0 9 = v := ⟨_, rfl⟩
                          have b5031 := iv15_9 hS5024.1 ta0 c5030
                          obtain ⟨v5032, c5033⟩ : ∃ v, I5018 a0 13 = v := ⟨_, rfl⟩
                          obtain ⟨v5034, c5035⟩ : ∃ v, I5018 a0 14 = v := ⟨_, rfl⟩
                          (try rw [c5030] at ov5028)
                          (try rw [c5033] at ov5028)
                          (try rw [c5035] at ov5028)
                          (try rw [c5006] at ov5028)
                          (try rw [c5007] at ov5028)
                          (try rw [c5008] at ov5028)
                          refine tr_aload_n dX12_readAlp_63 rfl ?_
                          refine tr_getR dX12_readAlp_64 fl12_188 (kR15 hS5024.1 ta0) d2 ?_
                          refine tr_getR dX12_readAlp_67 fl12_260 (kR14 hS5024.1 ta1) d4795 ?_
                          refine tr_iload_n dX12_readAlp_70 rfl ?_
                          refine tr_aload_n dX12_readAlp_71 rfl ?_
                          refine q_iconst dX12_readAlp_72 (by decide) ?_
                          intro v5036 h5037
                          refine q_bipush dX12_readAlp_73 (by decide +kernel) ?_
                          intro v5038 h5039
                          refine q_callVi hE (M' := mX12_readWhole) (as := [_, _]) dX12_readAlp_75 lk12_161 inX12_readWhole seX12_readWhole myX12_readWhole (by decide) ⟨by decide, by decide⟩ rfl (kR15 hS5024.1 ta0) (Nat.le_of_ble_eq_true rfl) rfl rfl (by decide) (by decide) (k_X12_readWhole hS5024.1 ta0) ?_
                          rintro v5044 cn' K' N' I5040 R5041 L5042 ⟨rfl, rfl, rfl, rfl, g5043, p5045, w5046, -⟩
                          have hS5047 := hS5024.tr g5043 (by decide +kernel) (by decide +kernel)
                          have c5048 : I5040 a1 0 = v29 := (g5043.cell ta1 (by decide +kernel)).trans c5025
                          have c5049 : I5040 a1 1 = v33 := (g5043.cell ta1 (by decide +kernel)).trans c5026
                          have b5050 : 0 ≤ v5044.toInt ∧ v5044.toInt ≤ 99 := by omega
                          clear p5045
                          have hO5051 : FrO 14 a1 T I0 I5040 := hO5027.st g5043 (by decide +kernel)
                          have ov5052 := w5046.over (by rw [c5030]; omega)
                          obtain ⟨v5053, c5054⟩ : ∃ v, I5040 a0 9 = v := ⟨_, rfl⟩
                          have b5055 := iv15_9 hS5047.1 ta0 c5054
                          obtain ⟨v5056, c5057⟩ : ∃ v, I5040 a0 13 = v := ⟨_, rfl⟩
                          obtain ⟨v5058, c5059⟩ : ∃ v, I5040 a0 14 = v := ⟨_, rfl⟩
                          (try rw [c5054] at ov5052)
                          (try rw [c5057] at ov5052)
                          (try rw [c5059] at ov5052)
                          (try rw [c5030] at ov5052)
                          (try rw [c5033] at ov5052)
                          (try rw [c5035] at ov5052)
                          refine q_iast dX12_readAlp_78 (kR53 hS5047.1 ta4794) (ti_in (nR53 hS5047.1 ta4794) (by omega) (by omega)) hS5047 ta4794 (iokF rfl) rfl (by rfl) ?_
                          intro I5060 hS5061 e5063 f5062
                          have c5064 : I5060 a1 0 = v29 := (f5062 _ _ (fun q => by have z := ta1; rw [q.1, ta4794] at z; exact absurd z (by decide))).trans c5048
                          have c5065 : I5060 a1 1 = v33 := (f5062 _ _ (fun q => by have z := ta1; rw [q.1, ta4794] at z; exact absurd z (by decide))).trans c5049
                          have c5066 : I5060 a0 9 = v5053 := (f5062 _ _ (fun q => by have z := ta0; rw [q.1, ta4794] at z; exact absurd z (by decide))).trans c5054
                          have c5067 : I5060 a0 13 = v5056 := (f5062 _ _ (fun q => by have z := ta0; rw [q.1, ta4794] at z; exact absurd z (by decide))).trans c5057
                          have c5068 : I5060 a0 14 = v5058 := (f5062 _ _ (fun q => by have z := ta0; rw [q.1, ta4794] at z; exact absurd z (by decide))).trans c5059
                          have hO5069 : FrO 14 a1 T I0 I5060 := hO5051.put f5062 ta4794 (Or.inl (by decide))
                          refine q_iincE dX12_readAlp_79 rfl (by decide) (by decide) (by intros; omega) ?_
                          intro v5070 h5071
                          refine tr_goto 48 dX12_readAlp_82 (by decide) ?_
                          refine tr_iload_n dX12_readAlp_48 rfl ?_
                          refine q_iconst dX12_readAlp_49 (by decide) ?_
                          intro v5072 h5073
                          refine q_icmp_ge 85 dX12_readAlp_50 (by decide) (fun h5074 => ?_) (fun h5074 => ?_)
                          · skip
                            refine tr_aload_n dX12_readAlp_85 rfl ?_
                            refine q_getI dX12_readAlp_86 fl12_99 (kR15 hS5061.1 ta0) c5066 ?_
                            refine q_iconst dX12_readAlp_89 (by decide) ?_
                            intro v5075 h5076
                            refine q_icmp_ne 94 dX12_readAlp_90 (by decide) (fun h5077 => ?_) (fun h5077 => ?_)
                            · skip
                              exfalso; omega
                            · skip
                              have eF := hF.eq
                              have eP := hP.eq
                              obtain ⟨v5078, c5079⟩ : ∃ v, I5060 a0 10 = v := ⟨_, rfl⟩
                              have b5080 := iv15_10 hS5061.1 ta0 c5079
                              obtain ⟨v5081, c5082⟩ : ∃ v, I5060 a0 11 = v := ⟨_, rfl⟩
                              obtain ⟨y5083, c5084⟩ : ∃ v, L5042 a0 15 = v := ⟨_, rfl⟩
                              obtain ⟨v5085, c5086⟩ : ∃ v, I5060 a0 12 = v := ⟨_, rfl⟩
                              obtain ⟨v5087, c5088⟩ : ∃ v, I5060 a0 8 = v := ⟨_, rfl⟩
                              have b5089 := iv15_8 hS5061.1 ta0 c5088
                              exact tr_vret hZ dX12_readAlp_93 rfl (by decide) (by decide) ⟨rfl, rfl, rfl, rfl, rfl, hS5061, (fun dr hd => (Option.some.inj (d2.symm.trans hd)) ▸ hO5069), (Or.inr (⟨(by (try rw [w107]); first | done | with_reducible assumption | omega), (by (try rw [w107]); (try rw [c5066]); first | done | with_reducible assumption | omega), (by (try rw [w107]); (try rw [c5067]); first | done | with_reducible assumption | omega), (by (try rw [w107]); (try rw [c5068]); first | done | with_reducible assumption | omega), trivial⟩)), trivial⟩
                          · skip
                            exfalso; omega
        · skip
          exfalso; omega
    · skip
      obtain ⟨v5090, c5091⟩ : ∃ v, I121 a0 9 = v := ⟨_, rfl⟩
      have b5092 := iv15_9 hS129.1 ta0 c5091
      rw [c5091] at p165
      obtain ⟨v5093, c5094⟩ : ∃ v, I121 a0 13 = v := ⟨_, rfl⟩
      rw [c5094] at p166
      obtain ⟨v5095, c5096⟩ : ∃ v, I121 a0 14 = v := ⟨_, rfl⟩
      rw [c5096] at p167
      replace hF := hF.neg (by omega)
      replace hP := hP.neg (by omega)
      replace hF := hF.neg (by omega)
      replace hP := hP.neg (by omega)
      replace hF := hF.pos (by omega)
      replace hP := hP.pos (by omega)
      refine tr_istore_n dX12_readAlp_30 (by decide) (by decide) ?_
      refine tr_aload_n dX12_readAlp_31 rfl ?_
      refine tr_ldcS dX12_readAlp_32 ld12_253 ?_
      refine q_iconst dX12_readAlp_34 (by decide) ?_
      intro v5097 h5098
      refine q_iconst dX12_readAlp_35 (by decide) ?_
      intro v5099 h5100
      refine q_callVi hE (M' := mX12_readPart) (as := [_, _, _]) dX12_readAlp_36 lk12_249 inX12_readPart seX12_readPart myX12_readPart (by decide) ⟨by decide, by decide⟩ rfl (kR15 hS129.1 ta0) (Nat.le_of_ble_eq_true rfl) rfl rfl (by decide) (by decide) (k_X12_readPart hS129.1 ta0 (by decide)) ?_
      rintro v5105 cn' K' N' I5101 R5102 L5103 ⟨rfl, rfl, rfl, rfl, g5104, p5106, w5107, -⟩
      have hS5108 := hS129.tr g5104 (by decide +kernel) (by decide +kernel)
      have c5109 : I5101 a1 0 = v29 := (g5104.cell ta1 (by decide +kernel)).trans c130
      have c5110 : I5101 a1 1 = v33 := (g5104.cell ta1 (by decide +kernel)).trans c131
      have b5111 : 1 ≤ v5105.toInt ∧ v5105.toInt ≤ 4 := by omega
      clear p5106
      have hO5112 : FrO 14 a1 T I0 I5101 := hO132.st g5104 (by decide +kernel)
      have ov5113 := w5107.over (by rw [c5091]; omega)
      obtain ⟨v5114, c5115⟩ : ∃ v, I5101 a0 9 = v := ⟨_, rfl⟩
      have b5116 := iv15_9 hS5108.1 ta0 c5115
      obtain ⟨v5117, c5118⟩ : ∃ v, I5101 a0 13 = v := ⟨_, rfl⟩
      obtain ⟨v5119, c5120⟩ : ∃ v, I5101 a0 14 = v := ⟨_, rfl⟩
      (try rw [c5115] at ov5113)
      (try rw [c5118] at ov5113)
      (try rw [c5120] at ov5113)
      (try rw [c5091] at ov5113)
      (try rw [c5094] at ov5113)
      (try rw [c5096] at ov5113)
      refine tr_istore_n dX12_readAlp_39 (by decide) (by decide) ?_
      refine tr_aload_n dX12_readAlp_40 rfl ?_
      refine tr_ldcS dX12_readAlp_41 ld12_255 ?_
      refine q_callVv hE (M' := mX12_needs) (as := [_]) dX12_readAlp_43 lk12_157 inX12_needs seX12_needs myX12_needs (by decide) ⟨by decide, by decide⟩ rfl (kR15 hS5108.1 ta0) (Nat.le_of_ble_eq_true rfl) rfl rfl (by decide) (by decide) (k_X12_needs hS5108.1 ta0 (by decide)) ?_
      rintro cn' K' N' I5121 R5122 L5123 ⟨rfl, rfl, rfl, rfl, g5124, w5126, -⟩
      have hS5127 := hS5108.tr g5124 (by decide +kernel) (by decide +kernel)
      have c5128 : I5121 a1 0 = v29 := (g5124.cell ta1 (by decide +kernel)).trans c5109
      have c5129 : I5121 a1 1 = v33 := (g5124.cell ta1 (by decide +kernel)).trans c5110
      have hO5130 : FrO 14 a1 T I0 I5121 := hO5112.st g5124 (by decide +kernel)
      have ov5131 := w5126.over (by rw [c5115]; omega)
      obtain ⟨v5132, c5133⟩ : ∃ v, I5121 a0 9 = v := ⟨_, rfl⟩
      have b5134 := iv15_9 hS5127.1 ta0 c5133
      obtain ⟨v5135, c5136⟩ : ∃ v, I5121 a0 13 = v := ⟨_, rfl⟩
      obtain ⟨v5137, c5138⟩ : ∃ v, I5121 a0 14 = v := ⟨_, rfl⟩
      (try rw [c5133] at ov5131)
      (try rw [c5136] at ov5131)
      (try rw [c5138] at ov5131)
      (try rw [c5115] at ov5131)
      (try rw [c5118] at ov5131)
      (try rw [c5120] at ov5131)
      refine q_iconst dX12_readAlp_46 (by decide) ?_
      intro v5139 h5140
      refine tr_istore_n dX12_readAlp_47 (by decide) (by decide) ?_
      refine tr_iload_n dX12_readAlp_48 rfl ?_
      refine q_iconst dX12_readAlp_49 (by decide) ?_
      intro v5141 h5142
      refine q_icmp_ge 85 dX12_readAlp_50 (by decide) (fun h5143 => ?_) (fun h5143 => ?_)
      · skip
        exfalso; omega
      · skip
        refine tr_iload_n dX12_readAlp_53 rfl ?_
        refine q_if_le 63 dX12_readAlp_54 (by decide) (fun h5144 => ?_) (fun h5144 => ?_)
        · skip
          refine tr_aload_n dX12_readAlp_63 rfl ?_
          refine tr_getR dX12_readAlp_64 fl12_188 (kR15 hS5127.1 ta0) d2 ?_
          obtain ⟨a5145, d5146, ta5145⟩ := rf14_10 hW0 ta1
          refine tr_getR dX12_readAlp_67 fl12_260 (kR14 hS5127.1 ta1) d5146 ?_
          refine tr_iload_n dX12_readAlp_70 rfl ?_
          refine tr_aload_n dX12_readAlp_71 rfl ?_
          refine q_iconst dX12_readAlp_72 (by decide) ?_
          intro v5147 h5148
          refine q_bipush dX12_readAlp_73 (by decide +kernel) ?_
          intro v5149 h5150
          refine q_callVi hE (M' := mX12_readWhole) (as := [_, _]) dX12_readAlp_75 lk12_161 inX12_readWhole seX12_readWhole myX12_readWhole (by decide) ⟨by decide, by decide⟩ rfl (kR15 hS5127.1 ta0) (Nat.le_of_ble_eq_true rfl) rfl rfl (by decide) (by decide) (k_X12_readWhole hS5127.1 ta0) ?_
          rintro v5155 cn' K' N' I5151 R5152 L5153 ⟨rfl, rfl, rfl, rfl, g5154, p5156, w5157, -⟩
          have hS5158 := hS5127.tr g5154 (by decide +kernel) (by decide +kernel)
          have c5159 : I5151 a1 0 = v29 := (g5154.cell ta1 (by decide +kernel)).trans c5128
          have c5160 : I5151 a1 1 = v33 := (g5154.cell ta1 (by decide +kernel)).trans c5129
          have b5161 : 0 ≤ v5155.toInt ∧ v5155.toInt ≤ 99 := by omega
          clear p5156
          have hO5162 : FrO 14 a1 T I0 I5151 := hO5130.st g5154 (by decide +kernel)
          have ov5163 := w5157.over (by rw [c5133]; omega)
          obtain ⟨v5164, c5165⟩ : ∃ v, I5151 a0 9 = v := ⟨_, rfl⟩
          have b5166 := iv15_9 hS5158.1 ta0 c5165
          obtain ⟨v5167, c5168⟩ : ∃ v, I5151 a0 13 = v := ⟨_, rfl⟩
          obtain ⟨v5169, c5170⟩ : ∃ v, I5151 a0 14 = v := ⟨_, rfl⟩
          (try rw [c5165] at ov5163)
          (try rw [c5168] at ov5163)
          (try rw [c5170] at ov5163)
          (try rw [c5133] at ov5163)
          (try rw [c5136] at ov5163)
          (try rw [c5138] at ov5163)
          refine q_iast dX12_readAlp_78 (kR53 hS5158.1 ta5145) (ti_in (nR53 hS5158.1 ta5145) (by omega) (by omega)) hS5158 ta5145 (iokF rfl) rfl (by rfl) ?_
          intro I5171 hS5172 e5174 f5173
          have c5175 : I5171 a1 0 = v29 := (f5173 _ _ (fun q => by have z := ta1; rw [q.1, ta5145] at z; exact absurd z (by decide))).trans c5159
          have c5176 : I5171 a1 1 = v33 := (f5173 _ _ (fun q => by have z := ta1; rw [q.1, ta5145] at z; exact absurd z (by decide))).trans c5160
          have c5177 : I5171 a0 9 = v5164 := (f5173 _ _ (fun q => by have z := ta0; rw [q.1, ta5145] at z; exact absurd z (by decide))).trans c5165
          have c5178 : I5171 a0 13 = v5167 := (f5173 _ _ (fun q => by have z := ta0; rw [q.1, ta5145] at z; exact absurd z (by decide))).trans c5168
          have c5179 : I5171 a0 14 = v5169 := (f5173 _ _ (fun q => by have z := ta0; rw [q.1, ta5145] at z; exact absurd z (by decide))).trans c5170
          have hO5180 : FrO 14 a1 T I0 I5171 := hO5162.put f5173 ta5145 (Or.inl (by decide))
          refine q_iincE dX12_readAlp_79 rfl (by decide) (by decide) (by intros; omega) ?_
          intro v5181 h5182
          refine tr_goto 48 dX12_readAlp_82 (by decide) ?_
          refine tr_iload_n dX12_readAlp_48 rfl ?_
          refine q_iconst dX12_readAlp_49 (by decide) ?_
          intro v5183 h5184
          refine q_icmp_ge 85 dX12_readAlp_50 (by decide) (fun h5185 => ?_) (fun h5185 => ?_)
          · skip
            exfalso; omega
          · skip
            refine tr_iload_n dX12_readAlp_53 rfl ?_
            refine q_if_le 63 dX12_readAlp_54 (by decide) (fun h5186 => ?_) (fun h5186 => ?_)
            · skip
              exfalso; omega
            · skip
              refine tr_aload_n dX12_readAlp_57 rfl ?_
              refine q_bipush dX12_readAlp_58 (by decide +kernel) ?_
              intro v5187 h5188
              refine q_callVv hE (M' := mX12_needsSign) (as := [_]) dX12_readAlp_60 lk12_257 inX12_needsSign seX12_needsSign myX12_needsSign (by decide) ⟨by decide, by decide⟩ rfl (kR15 hS5172.1 ta0) (Nat.le_of_ble_eq_true rfl) rfl rfl (by decide) (by decide) (k_X12_needsSign hS5172.1 ta0) ?_
              rintro cn' K' N' I5189 R5190 L5191 ⟨rfl, rfl, rfl, rfl, g5192, w5194, -⟩
              have hS5195 := hS5172.tr g5192 (by decide +kernel) (by decide +kernel)
              have c5196 : I5189 a1 0 = v29 := (g5192.cell ta1 (by decide +kernel)).trans c5175
              have c5197 : I5189 a1 1 = v33 := (g5192.cell ta1 (by decide +kernel)).trans c5176
              have hO5198 : FrO 14 a1 T I0 I5189 := hO5180.st g5192 (by decide +kernel)
              have ov5199 := w5194.over (by rw [c5177]; omega)
              obtain ⟨v5200, c5201⟩ : ∃ v, I5189 a0 9 = v := ⟨_, rfl⟩
              have b5202 := iv15_9 hS5195.1 ta0 c5201
              obtain ⟨v5203, c5204⟩ : ∃ v, I5189 a0 13 = v := ⟨_, rfl⟩
              obtain ⟨v5205, c5206⟩ : ∃ v, I5189 a0 14 = v := ⟨_, rfl⟩
              (try rw [c5201] at ov5199)
              (try rw [c5204] at ov5199)
              (try rw [c5206] at ov5199)
              (try rw [c5177] at ov5199)
              (try rw [c5178] at ov5199)
              (try rw [c5179] at ov5199)
              refine tr_aload_n dX12_readAlp_63 rfl ?_
              refine tr_getR dX12_readAlp_64 fl12_188 (kR15 hS5195.1 ta0) d2 ?_
              refine tr_getR dX12_readAlp_67 fl12_260 (kR14 hS5195.1 ta1) d5146 ?_
              refine tr_iload_n dX12_readAlp_70 rfl ?_
              refine tr_aload_n dX12_readAlp_71 rfl ?_
              refine q_iconst dX12_readAlp_72 (by decide) ?_
              intro v5207 h5208
              refine q_bipush dX12_readAlp_73 (by decide +kernel) ?_
              intro v5209 h5210
              refine q_callVi hE (M' := mX12_readWhole) (as := [_, _]) dX12_readAlp_75 lk12_161 inX12_readWhole seX12_readWhole myX12_readWhole (by decide) ⟨by decide, by decide⟩ rfl (kR15 hS5195.1 ta0) (Nat.le_of_ble_eq_true rfl) rfl rfl (by decide) (by decide) (k_X12_readWhole hS5195.1 ta0) ?_
              rintro v5215 cn' K' N' I5211 R5212 L5213 ⟨rfl, rfl, rfl, rfl, g5214, p5216, w5217, -⟩
              have hS5218 := hS5195.tr g5214 (by decide +kernel) (by decide +kernel)
              have c5219 : I5211 a1 0 = v29 := (g5214.cell ta1 (by decide +kernel)).trans c5196
              have c5220 : I5211 a1 1 = v33 := (g5214.cell ta1 (by decide +kernel)).trans c5197
              have b5221 : 0 ≤ v5215.toInt ∧ v5215.toInt ≤ 99 := by omega
              clear p5216
              have hO5222 : FrO 14 a1 T I0 I5211 := hO5198.st g5214 (by decide +kernel)
              have ov5223 := w5217.over (by rw [c5201]; omega)
              obtain ⟨v5224, c5225⟩ : ∃ v, I5211 a0 9 = v := ⟨_, rfl⟩
              have b5226 := iv15_9 hS5218.1 ta0 c5225
              obtain ⟨v5227, c5228⟩ : ∃ v, I5211 a0 13 = v := ⟨_, rfl⟩
              obtain ⟨v5229, c5230⟩ : ∃ v, I5211 a0 14 = v := ⟨_, rfl⟩
              (try rw [c5225] at ov5223)
              (try rw [c5228] at ov5223)
              (try rw [c5230] at ov5223)
              (try rw [c5201] at ov5223)
              (try rw [c5204] at ov5223)
              (try rw [c5206] at ov5223)
              refine q_iast dX12_readAlp_78 (kR53 hS5218.1 ta5145) (ti_in (nR53 hS5218.1 ta5145) (by omega) (by omega)) hS5218 ta5145 (iokF rfl) rfl (by rfl) ?_
              intro I5231 hS5232 e5234 f5233
              have c5235 : I5231 a1 0 = v29 := (f5233 _ _ (fun q => by have z := ta1; rw [q.1, ta5145] at z; exact absurd z (by decide))).trans c5219
              have c5236 : I5231 a1 1 = v33 := (f5233 _ _ (fun q => by have z := ta1; rw [q.1, ta5145] at z; exact absurd z (by decide))).trans c5220
              have c5237 : I5231 a0 9 = v5224 := (f5233 _ _ (fun q => by have z := ta0; rw [q.1, ta5145] at z; exact absurd z (by decide))).trans c5225
              have c5238 : I5231 a0 13 = v5227 := (f5233 _ _ (fun q => by have z := ta0; rw [q.1, ta5145] at z; exact absurd z (by decide))).trans c5228
              have c5239 : I5231 a0 14 = v5229 := (f5233 _ _ (fun q => by have z := ta0; rw [q.1, ta5145] at z; exact absurd z (by decide))).trans c5230
              have hO5240 : FrO 14 a1 T I0 I5231 := hO5222.put f5233 ta5145 (Or.inl (by decide))
              refine q_iincE dX12_readAlp_79 rfl (by decide) (by decide) (by intros; omega) ?_
              intro v5241 h5242
              refine tr_goto 48 dX12_readAlp_82 (by decide) ?_
              refine tr_iload_n dX12_readAlp_48 rfl ?_
              refine q_iconst dX12_readAlp_49 (by decide) ?_
              intro v5243 h5244
              refine q_icmp_ge 85 dX12_readAlp_50 (by decide) (fun h5245 => ?_) (fun h5245 => ?_)
              · skip
                exfalso; omega
              · skip
                refine tr_iload_n dX12_readAlp_53 rfl ?_
                refine q_if_le 63 dX12_readAlp_54 (by decide) (fun h5246 => ?_) (fun h5246 => ?_)
                · skip
                  exfalso; omega
                · skip
                  refine tr_aload_n dX12_readAlp_57 rfl ?_
                  refine q_bipush dX12_readAlp_58 (by decide +kernel) ?_
                  intro v5247 h5248
                  refine q_callVv hE (M' := mX12_needsSign) (as := [_]) dX12_readAlp_60 lk12_257 inX12_needsSign seX12_needsSign myX12_needsSign (by decide) ⟨by decide, by decide⟩ rfl (kR15 hS5232.1 ta0) (Nat.le_of_ble_eq_true rfl) rfl rfl (by decide) (by decide) (k_X12_needsSign hS5232.1 ta0) ?_
                  rintro cn' K' N' I5249 R5250 L5251 ⟨rfl, rfl, rfl, rfl, g5252, w5254, -⟩
                  have hS5255 := hS5232.tr g5252 (by decide +kernel) (by decide +kernel)
                  have c5256 : I5249 a1 0 = v29 := (g5252.cell ta1 (by decide +kernel)).trans c5235
                  have c5257 : I5249 a1 1 = v33 := (g5252.cell ta1 (by decide +kernel)).trans c5236
                  have hO5258 : FrO 14 a1 T I0 I5249 := hO5240.st g5252 (by decide +kernel)
                  have ov5259 := w5254.over (by rw [c5237]; omega)
                  obtain ⟨v5260, c5261⟩ : ∃ v, I5249 a0 9 = v := ⟨_, rfl⟩
                  have b5262 := iv15_9 hS5255.1 ta0 c5261
                  obtain ⟨v5263, c5264⟩ : ∃ v, I5249 a0 13 = v := ⟨_, rfl⟩
                  obtain ⟨v5265, c5266⟩ : ∃ v, I5249 a0 14 = v := ⟨_, rfl⟩
                  (try rw [c5261] at ov5259)
                  (try rw [c5264] at ov5259)
                  (try rw [c5266] at ov5259)
                  (try rw [c5237] at ov5259)
                  (try rw [c5238] at ov5259)
                  (try rw [c5239] at ov5259)
                  refine tr_aload_n dX12_readAlp_63 rfl ?_
                  refine tr_getR dX12_readAlp_64 fl12_188 (kR15 hS5255.1 ta0) d2 ?_
                  refine tr_getR dX12_readAlp_67 fl12_260 (kR14 hS5255.1 ta1) d5146 ?_
                  refine tr_iload_n dX12_readAlp_70 rfl ?_
                  refine tr_aload_n dX12_readAlp_71 rfl ?_
                  refine q_iconst dX12_readAlp_72 (by decide) ?_
                  intro v5267 h5268
                  refine q_bipush dX12_readAlp_73 (by decide +kernel) ?_
                  intro v5269 h5270
                  refine q_callVi hE (M' := mX12_readWhole) (as := [_, _]) dX12_readAlp_75 lk12_161 inX12_readWhole seX12_readWhole myX12_readWhole (by decide) ⟨by decide, by decide⟩ rfl (kR15 hS5255.1 ta0) (Nat.le_of_ble_eq_true rfl) rfl rfl (by decide) (by decide) (k_X12_readWhole hS5255.1 ta0) ?_
                  rintro v5275 cn' K' N' I5271 R5272 L5273 ⟨rfl, rfl, rfl, rfl, g5274, p5276, w5277, -⟩
                  have hS5278 := hS5255.tr g5274 (by decide +kernel) (by decide +kernel)
                  have c5279 : I5271 a1 0 = v29 := (g5274.cell ta1 (by decide +kernel)).trans c5256
                  have c5280 : I5271 a1 1 = v33 := (g5274.cell ta1 (by decide +kernel)).trans c5257
                  have b5281 : 0 ≤ v5275.toInt ∧ v5275.toInt ≤ 99 := by omega
                  clear p5276
                  have hO5282 : FrO 14 a1 T I0 I5271 := hO5258.st g5274 (by decide +kernel)
                  have ov5283 := w5277.over (by rw [c5261]; omega)
                  obtain ⟨v5284, c5285⟩ : ∃ v, I5271 a0 9 = v := ⟨_, rfl⟩
                  have b5286 := iv15_9 hS5278.1 ta0 c5285
                  obtain ⟨v5287, c5288⟩ : ∃ v, I5271 a0 13 = v := ⟨_, rfl⟩
                  obtain ⟨v5289, c5290⟩ : ∃ v, I5271 a0 14 = v := ⟨_, rfl⟩
                  (try rw [c5285] at ov5283)
                  (try rw [c5288] at ov5283)
                  (try rw [c5290] at ov5283)
                  (try rw [c5261] at ov5283)
                  (try rw [c5264] at ov5283)
                  (try rw [c5266] at ov5283)
                  refine q_iast dX12_readAlp_78 (kR53 hS5278.1 ta5145) (ti_in (nR53 hS5278.1 ta5145) (by omega) (by omega)) hS5278 ta5145 (iokF rfl) rfl (by rfl) ?_
                  intro I5291 hS5292 e5294 f5293
                  have c5295 : I5291 a1 0 = v29 := (f5293 _ _ (fun q => by have z := ta1; rw [q.1, ta5145] at z; exact absurd z (by decide))).trans c5279
                  have c5296 : I5291 a1 1 = v33 := (f5293 _ _ (fun q => by have z := ta1; rw [q.1, ta5145] at z; exact absurd z (by decide))).trans c5280
                  have c5297 : I5291 a0 9 = v5284 := (f5293 _ _ (fun q => by have z := ta0; rw [q.1, ta5145] at z; exact absurd z (by decide))).trans c5285
                  have c5298 : I5291 a0 13 = v5287 := (f5293 _ _ (fun q => by have z := ta0; rw [q.1, ta5145] at z; exact absurd z (by decide))).trans c5288
                  have c5299 : I5291 a0 14 = v5289 := (f5293 _ _ (fun q => by have z := ta0; rw [q.1, ta5145] at z; exact absurd z (by decide))).trans c5290
                  have hO5300 : FrO 14 a1 T I0 I5291 := hO5282.put f5293 ta5145 (Or.inl (by decide))
                  refine q_iincE dX12_readAlp_79 rfl (by decide) (by decide) (by intros; omega) ?_
                  intro v5301 h5302
                  refine tr_goto 48 dX12_readAlp_82 (by decide) ?_
                  refine tr_iload_n dX12_readAlp_48 rfl ?_
                  refine q_iconst dX12_readAlp_49 (by decide) ?_
                  intro v5303 h5304
                  refine q_icmp_ge 85 dX12_readAlp_50 (by decide) (fun h5305 => ?_) (fun h5305 => ?_)
                  · skip
                    exfalso; omega
                  · skip
                    refine tr_iload_n dX12_readAlp_53 rfl ?_
                    refine q_if_le 63 dX12_readAlp_54 (by decide) (fun h5306 => ?_) (fun h5306 => ?_)
                    · skip
                      exfalso; omega
                    · skip
                      refine tr_aload_n dX12_readAlp_57 rfl ?_
                      refine q_bipush dX12_readAlp_58 (by decide +kernel) ?_
                      intro v5307 h5308
                      refine q_callVv hE (M' := mX12_needsSign) (as := [_]) dX12_readAlp_60 lk12_257 inX12_needsSign seX12_needsSign myX12_needsSign (by decide) ⟨by decide, by decide⟩ rfl (kR15 hS5292.1 ta0) (Nat.le_of_ble_eq_true rfl) rfl rfl (by decide) (by decide) (k_X12_needsSign hS5292.1 ta0) ?_
                      rintro cn' K' N' I5309 R5310 L5311 ⟨rfl, rfl, rfl, rfl, g5312, w5314, -⟩
                      have hS5315 := hS5292.tr g5312 (by decide +kernel) (by decide +kernel)
                      have c5316 : I5309 a1 0 = v29 := (g5312.cell ta1 (by decide +kernel)).trans c5295
                      have c5317 : I5309 a1 1 = v33 := (g5312.cell ta1 (by decide +kernel)).trans c5296
                      have hO5318 : FrO 14 a1 T I0 I5309 := hO5300.st g5312 (by decide +kernel)
                      have ov5319 := w5314.over (by rw [c5297]; omega)
                      obtain ⟨v5320, c5321⟩ : ∃ v, I5309 a0 9 = v := ⟨_, rfl⟩
                      have b5322 := iv15_9 hS5315.1 ta0 c5321
                      obtain ⟨v5323, c5324⟩ : ∃ v, I5309 a0 13 = v := ⟨_, rfl⟩
                      obtain ⟨v5325, c5326⟩ : ∃ v, I5309 a0 14 = v := ⟨_, rfl⟩
                      (try rw [c5321] at ov5319)
                      (try rw [c5324] at ov5319)
                      (try rw [c5326] at ov5319)
                      (try rw [c5297] at ov5319)
                      (try rw [c5298] at ov5319)
                      (try rw [c5299] at ov5319)
                      refine tr_aload_n dX12_readAlp_63 rfl ?_
                      refine tr_getR dX12_readAlp_64 fl12_188 (kR15 hS5315.1 ta0) d2 ?_
                      refine tr_getR dX12_readAlp_67 fl12_260 (kR14 hS5315.1 ta1) d5146 ?_
                      refine tr_iload_n dX12_readAlp_70 rfl ?_
                      refine tr_aload_n dX12_readAlp_71 rfl ?_
                      refine q_iconst dX12_readAlp_72 (by decide) ?_
                      intro v5327 h5328
                      refine q_bipush dX12_readAlp_73 (by decide +kernel) ?_
                      intro v5329 h5330
                      refine q_callVi hE (M' := mX12_readWhole) (as := [_, _]) dX12_readAlp_75 lk12_161 inX12_readWhole seX12_readWhole myX12_readWhole (by decide) ⟨by decide, by decide⟩ rfl (kR15 hS5315.1 ta0) (Nat.le_of_ble_eq_true rfl) rfl rfl (by decide) (by decide) (k_X12_readWhole hS5315.1 ta0) ?_
                      rintro v5335 cn' K' N' I5331 R5332 L5333 ⟨rfl, rfl, rfl, rfl, g5334, p5336, w5337, -⟩
                      have hS5338 := hS5315.tr g5334 (by decide +kernel) (by decide +kernel)
                      have c5339 : I5331 a1 0 = v29 := (g5334.cell ta1 (by decide +kernel)).trans c5316
                      have c5340 : I5331 a1 1 = v33 := (g5334.cell ta1 (by decide +kernel)).trans c5317
                      have b5341 : 0 ≤ v5335.toInt ∧ v5335.toInt ≤ 99 := by omega
                      clear p5336
                      have hO5342 : FrO 14 a1 T I0 I5331 := hO5318.st g5334 (by decide +kernel)
                      have ov5343 := w5337.over (by rw [c5321]; omega)
                      obtain ⟨v5344, c5345⟩ : ∃ v, I5331 a0 9 = v := ⟨_, rfl⟩
                      have b5346 := iv15_9 hS5338.1 ta0 c5345
                      obtain ⟨v5347, c5348⟩ : ∃ v, I5331 a0 13 = v := ⟨_, rfl⟩
                      obtain ⟨v5349, c5350⟩ : ∃ v, I5331 a0 14 = v := ⟨_, rfl⟩
                      (try rw [c5345] at ov5343)
                      (try rw [c5348] at ov5343)
                      (try rw [c5350] at ov5343)
                      (try rw [c5321] at ov5343)
                      (try rw [c5324] at ov5343)
                      (try rw [c5326] at ov5343)
                      refine q_iast dX12_readAlp_78 (kR53 hS5338.1 ta5145) (ti_in (nR53 hS5338.1 ta5145) (by omega) (by omega)) hS5338 ta5145 (iokF rfl) rfl (by rfl) ?_
                      intro I5351 hS5352 e5354 f5353
                      have c5355 : I5351 a1 0 = v29 := (f5353 _ _ (fun q => by have z := ta1; rw [q.1, ta5145] at z; exact absurd z (by decide))).trans c5339
                      have c5356 : I5351 a1 1 = v33 := (f5353 _ _ (fun q => by have z := ta1; rw [q.1, ta5145] at z; exact absurd z (by decide))).trans c5340
                      have c5357 : I5351 a0 9 = v5344 := (f5353 _ _ (fun q => by have z := ta0; rw [q.1, ta5145] at z; exact absurd z (by decide))).trans c5345
                      have c5358 : I5351 a0 13 = v5347 := (f5353 _ _ (fun q => by have z := ta0; rw [q.1, ta5145] at z; exact absurd z (by decide))).trans c5348
                      have c5359 : I5351 a0 14 = v5349 := (f5353 _ _ (fun q => by have z := ta0; rw [q.1, ta5145] at z; exact absurd z (by decide))).trans c5350
                      have hO5360 : FrO 14 a1 T I0 I5351 := hO5342.put f5353 ta5145 (Or.inl (by decide))
                      refine q_iincE dX12_readAlp_79 rfl (by decide) (by decide) (by intros; omega) ?_
                      intro v5361 h5362
                      refine tr_goto 48 dX12_readAlp_82 (by decide) ?_
                      refine tr_iload_n dX12_readAlp_48 rfl ?_
                      refine q_iconst dX12_readAlp_49 (by decide) ?_
                      intro v5363 h5364
                      refine q_icmp_ge 85 dX12_readAlp_50 (by decide) (fun h5365 => ?_) (fun h5365 => ?_)
                      · skip
                        exfalso; omega
                      · skip
                        refine tr_iload_n dX12_readAlp_53 rfl ?_
                        refine q_if_le 63 dX12_readAlp_54 (by decide) (fun h5366 => ?_) (fun h5366 => ?_)
                        · skip
                          exfalso; omega
                        · skip
                          refine tr_aload_n dX12_readAlp_57 rfl ?_
                          refine q_bipush dX12_readAlp_58 (by decide +kernel) ?_
                          intro v5367 h5368
                          refine q_callVv hE (M' := mX12_needsSign) (as := [_]) dX12_readAlp_60 lk12_257 inX12_needsSign seX12_needsSign myX12_needsSign (by decide) ⟨by decide, by decide⟩ rfl (kR15 hS5352.1 ta0) (Nat.le_of_ble_eq_true rfl) rfl rfl (by decide) (by decide) (k_X12_needsSign hS5352.1 ta0) ?_
                          rintro cn' K' N' I5369 R5370 L5371 ⟨rfl, rfl, rfl, rfl, g5372, w5374, -⟩
                          have hS5375 := hS5352.tr g5372 (by decide +kernel) (by decide +kernel)
                          have c5376 : I5369 a1 0 = v29 := (g5372.cell ta1 (by decide +kernel)).trans c5355
                          have c5377 : I5369 a1 1 = v33 := (g5372.cell ta1 (by decide +kernel)).trans c5356
                          have hO5378 : FrO 14 a1 T I0 I5369 := hO5360.st g5372 (by decide +kernel)
                          have ov5379 := w5374.over (by rw [c5357]; omega)
                          obtain ⟨v5380, c5381⟩ : ∃ v, I5369 a0 9 = v := ⟨_, rfl⟩
                          have b5382 := iv15_9 hS5375.1 ta0 c5381
                          obtain ⟨v5383, c5384⟩ : ∃ v, I5369 a0 13 = v := ⟨_, rfl⟩
                          obtain ⟨v5385, c5386⟩ : ∃ v, I5369 a0 14 = v := ⟨_, rfl⟩
                          (try rw [c5381] at ov5379)
                          (try rw [c5384] at ov5379)
                          (try rw [c5386] at ov5379)
                          (try rw [c5357] at ov5379)
                          (try rw [c5358] at ov5379)
                          (try rw [c5359] at ov5379)
                          refine tr_aload_n dX12_readAlp_63 rfl ?_
                          refine tr_getR dX12_readAlp_64 fl12_188 (kR15 hS5375.1 ta0) d2 ?_
                          refine tr_getR dX12_readAlp_67 fl12_260 (kR14 hS5375.1 ta1) d5146 ?_
                          refine tr_iload_n dX12_readAlp_70 rfl ?_
                          refine tr_aload_n dX12_readAlp_71 rfl ?_
                          refine q_iconst dX12_readAlp_72 (by decide) ?_
                          intro v5387 h5388
                          refine q_bipush dX12_readAlp_73 (by decide +kernel) ?_
                          intro v5389 h5390
                          refine q_callVi hE (M' := mX12_readWhole) (as := [_, _]) dX12_readAlp_75 lk12_161 inX12_readWhole seX12_readWhole myX12_readWhole (by decide) ⟨by decide, by decide⟩ rfl (kR15 hS5375.1 ta0) (Nat.le_of_ble_eq_true rfl) rfl rfl (by decide) (by decide) (k_X12_readWhole hS5375.1 ta0) ?_
                          rintro v5395 cn' K' N' I5391 R5392 L5393 ⟨rfl, rfl, rfl, rfl, g5394, p5396, w5397, -⟩
                          have hS5398 := hS5375.tr g5394 (by decide +kernel) (by decide +kernel)
                          have c5399 : I5391 a1 0 = v29 := (g5394.cell ta1 (by decide +kernel)).trans c5376
                          have c5400 : I5391 a1 1 = v33 := (g5394.cell ta1 (by decide +kernel)).trans c5377
                          have b5401 : 0 ≤ v5395.toInt ∧ v5395.toInt ≤ 99 := by omega
                          clear p5396
                          have hO5402 : FrO 14 a1 T I0 I5391 := hO5378.st g5394 (by decide +kernel)
                          have ov5403 := w5397.over (by rw [c5381]; omega)
                          obtain ⟨v5404, c5405⟩ : ∃ v, I5391 a0 9 = v := ⟨_, rfl⟩
                          have b5406 := iv15_9 hS5398.1 ta0 c5405
                          obtain ⟨v5407, c5408⟩ : ∃ v, I5391 a0 13 = v := ⟨_, rfl⟩
                          obtain ⟨v5409, c5410⟩ : ∃ v, I5391 a0 14 = v := ⟨_, rfl⟩
                          (try rw [c5405] at ov5403)
                          (try rw [c5408] at ov5403)
                          (try rw [c5410] at ov5403)
                          (try rw [c5381] at ov5403)
                          (try rw [c5384] at ov5403)
                          (try rw [c5386] at ov5403)
                          refine q_iast dX12_readAlp_78 (kR53 hS5398.1 ta5145) (ti_in (nR53 hS5398.1 ta5145) (by omega) (by omega)) hS5398 ta5145 (iokF rfl) rfl (by rfl) ?_
                          intro I5411 hS5412 e5414 f5413
                          have c5415 : I5411 a1 0 = v29 := (f5413 _ _ (fun q => by have z := ta1; rw [q.1, ta5145] at z; exact absurd z (by decide))).trans c5399
                          have c5416 : I5411 a1 1 = v33 := (f5413 _ _ (fun q => by have z := ta1; rw [q.1, ta5145] at z; exact absurd z (by decide))).trans c5400
                          have c5417 : I5411 a0 9 = v5404 := (f5413 _ _ (fun q => by have z := ta0; rw [q.1, ta5145] at z; exact absurd z (by decide))).trans c5405
                          have c5418 : I5411 a0 13 = v5407 := (f5413 _ _ (fun q => by have z := ta0; rw [q.1, ta5145] at z; exact absurd z (by decide))).trans c5408
                          have c5419 : I5411 a0 14 = v5409 := (f5413 _ _ (fun q => by have z := ta0; rw [q.1, ta5145] at z; exact absurd z (by decide))).trans c5410
                          have hO5420 : FrO 14 a1 T I0 I5411 := hO5402.put f5413 ta5145 (Or.inl (by decide))
                          refine q_iincE dX12_readAlp_79 rfl (by decide) (by decide) (by intros; omega) ?_
                          intro v5421 h5422
                          refine tr_goto 48 dX12_readAlp_82 (by decide) ?_
                          refine tr_iload_n dX12_readAlp_48 rfl ?_
                          refine q_iconst dX12_readAlp_49 (by decide) ?_
                          intro v5423 h5424
                          refine q_icmp_ge 85 dX12_readAlp_50 (by decide) (fun h5425 => ?_) (fun h5425 => ?_)
                          · skip
                            refine tr_aload_n dX12_readAlp_85 rfl ?_
                            refine q_getI dX12_readAlp_86 fl12_99 (kR15 hS5412.1 ta0) c5417 ?_
                            refine q_iconst dX12_readAlp_89 (by decide) ?_
                            intro v5426 h5427
                            refine q_icmp_ne 94 dX12_readAlp_90 (by decide) (fun h5428 => ?_) (fun h5428 => ?_)
                            · skip
                              exfalso; omega
                            · skip
                              have eF := hF.eq
                              have eP := hP.eq
                              obtain ⟨v5429, c5430⟩ : ∃ v, I5411 a0 10 = v := ⟨_, rfl⟩
                              have b5431 := iv15_10 hS5412.1 ta0 c5430
                              obtain ⟨v5432, c5433⟩ : ∃ v, I5411 a0 11 = v := ⟨_, rfl⟩
                              obtain ⟨y5434, c5435⟩ : ∃ v, L5393 a0 15 = v := ⟨_, rfl⟩
                              obtain ⟨v5436, c5437⟩ : ∃ v, I5411 a0 12 = v := ⟨_, rfl⟩
                              obtain ⟨v5438, c5439⟩ : ∃ v, I5411 a0 8 = v := ⟨_, rfl⟩
                              have b5440 := iv15_8 hS5412.1 ta0 c5439
                              exact tr_vret hZ dX12_readAlp_93 rfl (by decide) (by decide) ⟨rfl, rfl, rfl, rfl, rfl, hS5412, (fun dr hd => (Option.some.inj (d2.symm.trans hd)) ▸ hO5420), (Or.inr (⟨(by (try rw [w107]); first | done | with_reducible assumption | omega), (by (try rw [w107]); (try rw [c5417]); first | done | with_reducible assumption | omega), (by (try rw [w107]); (try rw [c5418]); first | done | with_reducible assumption | omega), (by (try rw [w107]); (try rw [c5419]); first | done | with_reducible assumption | omega), trivial⟩)), trivial⟩
                          · skip
                            exfalso; omega
        · skip
          exfalso; omega
  · skip
    have p5441 := p61
    unfold Q7M at p5441
    replace hF := hF.pos (by omega)
    replace hP := hP.pos (by omega)
    refine tr_aload_n dX12_readAlp_10 rfl ?_
    refine q_iconst dX12_readAlp_11 (by decide) ?_
    intro v5442 h5443
    refine q_callVv hE (M' := mX12_flaw) (as := [_]) dX12_readAlp_12 lk12_145 inX12_flaw seX12_flaw myX12_flaw (by decide) ⟨by decide, by decide⟩ rfl (kR15 hS0.1 ta0) (Nat.le_of_ble_eq_true rfl) rfl rfl (by decide) (by decide) (fk_X12_flaw hS0.1  ta0 (by omega) (by (try rw [c4]); first | done | with_reducible assumption | omega)) ?_
    rintro cn' K' N' I5444 R5445 L5446 ⟨rfl, rfl, rfl, rfl, rfl, g5447, p5450, p5451, p5452, -⟩
    have hM5453 : NmM I5444 R0 L0 a1 gQ := NmM.kpS hM0 g5447 hS0.1 ta1 (by decide +kernel) (by decide +kernel)
    have hS5454 := hS0.tr g5447 (by decide +kernel) (by decide +kernel)
    have c5455 : I5444 a0 10 = v8 := (g5447.cell ta0 (by decide +kernel)).trans c9
    have c5456 : I5444 a0 11 = v12 := (g5447.cell ta0 (by decide +kernel)).trans c13
    have c5457 : I5444 a0 12 = v18 := (g5447.cell ta0 (by decide +kernel)).trans c19
    have c5458 : I5444 a0 8 = v21 := (g5447.cell ta0 (by decide +kernel)).trans c22
    have c5459 : I5444 a1 0 = v29 := (g5447.cell ta1 (by decide +kernel)).trans c30
    have c5460 : I5444 a1 1 = v33 := (g5447.cell ta1 (by decide +kernel)).trans c34
    have hO5461 : FrO 14 a1 T I0 I5444 := hO0.st g5447 (by decide +kernel)
    obtain ⟨v5462, c5463⟩ : ∃ v, I5444 a0 9 = v := ⟨_, rfl⟩
    have b5464 := iv15_9 hS5454.1 ta0 c5463
    rw [c5463] at p5450
    obtain ⟨v5465, c5466⟩ : ∃ v, I5444 a0 13 = v := ⟨_, rfl⟩
    rw [c5466] at p5451
    obtain ⟨v5467, c5468⟩ : ∃ v, I5444 a0 14 = v := ⟨_, rfl⟩
    rw [c5468] at p5452
    rw [c9] at p5452
    refine tr_aload_n dX12_readAlp_15 rfl ?_
    refine q_callVv hE (M' := mX12_goesOn) (as := []) dX12_readAlp_16 lk12_142 inX12_goesOn seX12_goesOn myX12_goesOn (by decide) ⟨by decide, by decide⟩ rfl (kR15 hS5454.1 ta0) (Nat.le_of_ble_eq_true rfl) rfl rfl (by decide) (by decide) (k_X12_goesOn hS5454.1 ta0) ?_
    rintro cn' K' N' I5469 R5470 L5471 ⟨rfl, rfl, rfl, rfl, g5472, p5474, p5475, p5476, w5477, -⟩
    have hS5478 := hS5454.tr g5472 (by decide +kernel) (by decide +kernel)
    have c5479 : I5469 a1 0 = v29 := (g5472.cell ta1 (by decide +kernel)).trans c5459
    have c5480 : I5469 a1 1 = v33 := (g5472.cell ta1 (by decide +kernel)).trans c5460
    have c5481 : I5469 a0 13 = v5465 := (g5472.cell ta0 (by decide +kernel)).trans c5466
    have c5482 : I5469 a0 14 = v5467 := (g5472.cell ta0 (by decide +kernel)).trans c5468
    obtain ⟨v5483, c5484⟩ : ∃ v, I5469 a0 9 = v := ⟨_, rfl⟩
    have b5485 := iv15_9 hS5478.1 ta0 c5484
    rw [c5463] at p5474
    rw [c5484] at p5474
    rw [c5463] at p5475
    rw [c5484] at p5475
    obtain ⟨v5486, c5487⟩ : ∃ v, I5469 a0 8 = v := ⟨_, rfl⟩
    have b5488 := iv15_8 hS5478.1 ta0 c5487
    rw [c5487] at p5476
    rw [c5458] at p5476
    rw [c5481] at p5476
    rw [c5466] at p5476
    have hO5489 : FrO 14 a1 T I0 I5469 := hO5461.st g5472 (by decide +kernel)
    have ov5490 := w5477.over (by rw [c5463]; omega)
    obtain ⟨v5491, c5492⟩ : ∃ v, I5469 a0 9 = v := ⟨_, rfl⟩
    have b5493 := iv15_9 hS5478.1 ta0 c5492
    obtain ⟨v5494, c5495⟩ : ∃ v, I5469 a0 13 = v := ⟨_, rfl⟩
    obtain ⟨v5496, c5497⟩ : ∃ v, I5469 a0 14 = v := ⟨_, rfl⟩
    (try rw [c5492] at ov5490)
    (try rw [c5495] at ov5490)
    (try rw [c5497] at ov5490)
    (try rw [c5463] at ov5490)
    (try rw [c5466] at ov5490)
    (try rw [c5468] at ov5490)
    refine tr_aload_n dX12_readAlp_19 rfl ?_
    refine tr_ldcS dX12_readAlp_20 ld12_248 ?_
    refine q_bipush dX12_readAlp_22 (by decide +kernel) ?_
    intro v5498 h5499
    refine q_sipush dX12_readAlp_24 (by decide +kernel) ?_
    intro v5500 h5501
    refine q_callVi hE (M' := mX12_readPart) (as := [_, _, _]) dX12_readAlp_27 lk12_249 inX12_readPart seX12_readPart myX12_readPart (by decide) ⟨by decide, by decide⟩ rfl (kR15 hS5478.1 ta0) (Nat.le_of_ble_eq_true rfl) rfl rfl (by decide) (by decide) (k_X12_readPart hS5478.1 ta0 (by decide)) ?_
    rintro v5506 cn' K' N' I5502 R5503 L5504 ⟨rfl, rfl, rfl, rfl, g5505, p5507, w5508, -⟩
    have hS5509 := hS5478.tr g5505 (by decide +kernel) (by decide +kernel)
    have c5510 : I5502 a1 0 = v29 := (g5505.cell ta1 (by decide +kernel)).trans c5479
    have c5511 : I5502 a1 1 = v33 := (g5505.cell ta1 (by decide +kernel)).trans c5480
    have b5512 : 10 ≤ v5506.toInt ∧ v5506.toInt ≤ 240 := by omega
    clear p5507
    have hO5513 : FrO 14 a1 T I0 I5502 := hO5489.st g5505 (by decide +kernel)
    have ov5514 := w5508.over (by rw [c5492]; omega)
    obtain ⟨v5515, c5516⟩ : ∃ v, I5502 a0 9 = v := ⟨_, rfl⟩
    have b5517 := iv15_9 hS5509.1 ta0 c5516
    obtain ⟨v5518, c5519⟩ : ∃ v, I5502 a0 13 = v := ⟨_, rfl⟩
    obtain ⟨v5520, c5521⟩ : ∃ v, I5502 a0 14 = v := ⟨_, rfl⟩
    (try rw [c5516] at ov5514)
    (try rw [c5519] at ov5514)
    (try rw [c5521] at ov5514)
    (try rw [c5492] at ov5514)
    (try rw [c5495] at ov5514)
    (try rw [c5497] at ov5514)
    refine tr_istore_n dX12_readAlp_30 (by decide) (by decide) ?_
    refine tr_aload_n dX12_readAlp_31 rfl ?_
    refine tr_ldcS dX12_readAlp_32 ld12_253 ?_
    refine q_iconst dX12_readAlp_34 (by decide) ?_
    intro v5522 h5523
    refine q_iconst dX12_readAlp_35 (by decide) ?_
    intro v5524 h5525
    refine q_callVi hE (M' := mX12_readPart) (as := [_, _, _]) dX12_readAlp_36 lk12_249 inX12_readPart seX12_readPart myX12_readPart (by decide) ⟨by decide, by decide⟩ rfl (kR15 hS5509.1 ta0) (Nat.le_of_ble_eq_true rfl) rfl rfl (by decide) (by decide) (k_X12_readPart hS5509.1 ta0 (by decide)) ?_
    rintro v5530 cn' K' N' I5526 R5527 L5528 ⟨rfl, rfl, rfl, rfl, g5529, p5531, w5532, -⟩
    have hS5533 := hS5509.tr g5529 (by decide +kernel) (by decide +kernel)
    have c5534 : I5526 a1 0 = v29 := (g5529.cell ta1 (by decide +kernel)).trans c5510
    have c5535 : I5526 a1 1 = v33 := (g5529.cell ta1 (by decide +kernel)).trans c5511
    have b5536 : 1 ≤ v5530.toInt ∧ v5530.toInt ≤ 4 := by omega
    clear p5531
    have hO5537 : FrO 14 a1 T I0 I5526 := hO5513.st g5529 (by decide +kernel)
    have ov5538 := w5532.over (by rw [c5516]; omega)
    obtain ⟨v5539, c5540⟩ : ∃ v, I5526 a0 9 = v := ⟨_, rfl⟩
    have b5541 := iv15_9 hS5533.1 ta0 c5540
    obtain ⟨v5542, c5543⟩ : ∃ v, I5526 a0 13 = v := ⟨_, rfl⟩
    obtain ⟨v5544, c5545⟩ : ∃ v, I5526 a0 14 = v := ⟨_, rfl⟩
    (try rw [c5540] at ov5538)
    (try rw [c5543] at ov5538)
    (try rw [c5545] at ov5538)
    (try rw [c5516] at ov5538)
    (try rw [c5519] at ov5538)
    (try rw [c5521] at ov5538)
    refine tr_istore_n dX12_readAlp_39 (by decide) (by decide) ?_
    refine tr_aload_n dX12_readAlp_40 rfl ?_
    refine tr_ldcS dX12_readAlp_41 ld12_255 ?_
    refine q_callVv hE (M' := mX12_needs) (as := [_]) dX12_readAlp_43 lk12_157 inX12_needs seX12_needs myX12_needs (by decide) ⟨by decide, by decide⟩ rfl (kR15 hS5533.1 ta0) (Nat.le_of_ble_eq_true rfl) rfl rfl (by decide) (by decide) (k_X12_needs hS5533.1 ta0 (by decide)) ?_
    rintro cn' K' N' I5546 R5547 L5548 ⟨rfl, rfl, rfl, rfl, g5549, w5551, -⟩
    have hS5552 := hS5533.tr g5549 (by decide +kernel) (by decide +kernel)
    have c5553 : I5546 a1 0 = v29 := (g5549.cell ta1 (by decide +kernel)).trans c5534
    have c5554 : I5546 a1 1 = v33 := (g5549.cell ta1 (by decide +kernel)).trans c5535
    have hO5555 : FrO 14 a1 T I0 I5546 := hO5537.st g5549 (by decide +kernel)
    have ov5556 := w5551.over (by rw [c5540]; omega)
    obtain ⟨v5557, c5558⟩ : ∃ v, I5546 a0 9 = v := ⟨_, rfl⟩
    have b5559 := iv15_9 hS5552.1 ta0 c5558
    obtain ⟨v5560, c5561⟩ : ∃ v, I5546 a0 13 = v := ⟨_, rfl⟩
    obtain ⟨v5562, c5563⟩ : ∃ v, I5546 a0 14 = v := ⟨_, rfl⟩
    (try rw [c5558] at ov5556)
    (try rw [c5561] at ov5556)
    (try rw [c5563] at ov5556)
    (try rw [c5540] at ov5556)
    (try rw [c5543] at ov5556)
    (try rw [c5545] at ov5556)
    refine q_iconst dX12_readAlp_46 (by decide) ?_
    intro v5564 h5565
    refine tr_istore_n dX12_readAlp_47 (by decide) (by decide) ?_
    refine tr_iload_n dX12_readAlp_48 rfl ?_
    refine q_iconst dX12_readAlp_49 (by decide) ?_
    intro v5566 h5567
    refine q_icmp_ge 85 dX12_readAlp_50 (by decide) (fun h5568 => ?_) (fun h5568 => ?_)
    · skip
      exfalso; omega
    · skip
      refine tr_iload_n dX12_readAlp_53 rfl ?_
      refine q_if_le 63 dX12_readAlp_54 (by decide) (fun h5569 => ?_) (fun h5569 => ?_)
      · skip
        refine tr_aload_n dX12_readAlp_63 rfl ?_
        refine tr_getR dX12_readAlp_64 fl12_188 (kR15 hS5552.1 ta0) d2 ?_
        obtain ⟨a5570, d5571, ta5570⟩ := rf14_10 hW0 ta1
        refine tr_getR dX12_readAlp_67 fl12_260 (kR14 hS5552.1 ta1) d5571 ?_
        refine tr_iload_n dX12_readAlp_70 rfl ?_
        refine tr_aload_n dX12_readAlp_71 rfl ?_
        refine q_iconst dX12_readAlp_72 (by decide) ?_
        intro v5572 h5573
        refine q_bipush dX12_readAlp_73 (by decide +kernel) ?_
        intro v5574 h5575
        refine q_callVi hE (M' := mX12_readWhole) (as := [_, _]) dX12_readAlp_75 lk12_161 inX12_readWhole seX12_readWhole myX12_readWhole (by decide) ⟨by decide, by decide⟩ rfl (kR15 hS5552.1 ta0) (Nat.le_of_ble_eq_true rfl) rfl rfl (by decide) (by decide) (k_X12_readWhole hS5552.1 ta0) ?_
        rintro v5580 cn' K' N' I5576 R5577 L5578 ⟨rfl, rfl, rfl, rfl, g5579, p5581, w5582, -⟩
        have hS5583 := hS5552.tr g5579 (by decide +kernel) (by decide +kernel)
        have c5584 : I5576 a1 0 = v29 := (g5579.cell ta1 (by decide +kernel)).trans c5553
        have c5585 : I5576 a1 1 = v33 := (g5579.cell ta1 (by decide +kernel)).trans c5554
        have b5586 : 0 ≤ v5580.toInt ∧ v5580.toInt ≤ 99 := by omega
        clear p5581
        have hO5587 : FrO 14 a1 T I0 I5576 := hO5555.st g5579 (by decide +kernel)
        have ov5588 := w5582.over (by rw [c5558]; omega)
        obtain ⟨v5589, c5590⟩ : ∃ v, I5576 a0 9 = v := ⟨_, rfl⟩
        have b5591 := iv15_9 hS5583.1 ta0 c5590
        obtain ⟨v5592, c5593⟩ : ∃ v, I5576 a0 13 = v := ⟨_, rfl⟩
        obtain ⟨v5594, c5595⟩ : ∃ v, I5576 a0 14 = v := ⟨_, rfl⟩
        (try rw [c5590] at ov5588)
        (try rw [c5593] at ov5588)
        (try rw [c5595] at ov5588)
        (try rw [c5558] at ov5588)
        (try rw [c5561] at ov5588)
        (try rw [c5563] at ov5588)
        refine q_iast dX12_readAlp_78 (kR53 hS5583.1 ta5570) (ti_in (nR53 hS5583.1 ta5570) (by omega) (by omega)) hS5583 ta5570 (iokF rfl) rfl (by rfl) ?_
        intro I5596 hS5597 e5599 f5598
        have c5600 : I5596 a1 0 = v29 := (f5598 _ _ (fun q => by have z := ta1; rw [q.1, ta5570] at z; exact absurd z (by decide))).trans c5584
        have c5601 : I5596 a1 1 = v33 := (f5598 _ _ (fun q => by have z := ta1; rw [q.1, ta5570] at z; exact absurd z (by decide))).trans c5585
        have c5602 : I5596 a0 9 = v5589 := (f5598 _ _ (fun q => by have z := ta0; rw [q.1, ta5570] at z; exact absurd z (by decide))).trans c5590
        have c5603 : I5596 a0 13 = v5592 := (f5598 _ _ (fun q => by have z := ta0; rw [q.1, ta5570] at z; exact absurd z (by decide))).trans c5593
        have c5604 : I5596 a0 14 = v5594 := (f5598 _ _ (fun q => by have z := ta0; rw [q.1, ta5570] at z; exact absurd z (by decide))).trans c5595
        have hO5605 : FrO 14 a1 T I0 I5596 := hO5587.put f5598 ta5570 (Or.inl (by decide))
        refine q_iincE dX12_readAlp_79 rfl (by decide) (by decide) (by intros; omega) ?_
        intro v5606 h5607
        refine tr_goto 48 dX12_readAlp_82 (by decide) ?_
        refine tr_iload_n dX12_readAlp_48 rfl ?_
        refine q_iconst dX12_readAlp_49 (by decide) ?_
        intro v5608 h5609
        refine q_icmp_ge 85 dX12_readAlp_50 (by decide) (fun h5610 => ?_) (fun h5610 => ?_)
        · skip
          exfalso; omega
        · skip
          refine tr_iload_n dX12_readAlp_53 rfl ?_
          refine q_if_le 63 dX12_readAlp_54 (by decide) (fun h5611 => ?_) (fun h5611 => ?_)
          · skip
            exfalso; omega
          · skip
            refine tr_aload_n dX12_readAlp_57 rfl ?_
            refine q_bipush dX12_readAlp_58 (by decide +kernel) ?_
            intro v5612 h5613
            refine q_callVv hE (M' := mX12_needsSign) (as := [_]) dX12_readAlp_60 lk12_257 inX12_needsSign seX12_needsSign myX12_needsSign (by decide) ⟨by decide, by decide⟩ rfl (kR15 hS5597.1 ta0) (Nat.le_of_ble_eq_true rfl) rfl rfl (by decide) (by decide) (k_X12_needsSign hS5597.1 ta0) ?_
            rintro cn' K' N' I5614 R5615 L5616 ⟨rfl, rfl, rfl, rfl, g5617, w5619, -⟩
            have hS5620 := hS5597.tr g5617 (by decide +kernel) (by decide +kernel)
            have c5621 : I5614 a1 0 = v29 := (g5617.cell ta1 (by decide +kernel)).trans c5600
            have c5622 : I5614 a1 1 = v33 := (g5617.cell ta1 (by decide +kernel)).trans c5601
            have hO5623 : FrO 14 a1 T I0 I5614 := hO5605.st g5617 (by decide +kernel)
            have ov5624 := w5619.over (by rw [c5602]; omega)
            obtain ⟨v5625, c5626⟩ : ∃ v, I5614 a0 9 = v := ⟨_, rfl⟩
            have b5627 := iv15_9 hS5620.1 ta0 c5626
            obtain ⟨v5628, c5629⟩ : ∃ v, I5614 a0 13 = v := ⟨_, rfl⟩
            obtain ⟨v5630, c5631⟩ : ∃ v, I5614 a0 14 = v := ⟨_, rfl⟩
            (try rw [c5626] at ov5624)
            (try rw [c5629] at ov5624)
            (try rw [c5631] at ov5624)
            (try rw [c5602] at ov5624)
            (try rw [c5603] at ov5624)
            (try rw [c5604] at ov5624)
            refine tr_aload_n dX12_readAlp_63 rfl ?_
            refine tr_getR dX12_readAlp_64 fl12_188 (kR15 hS5620.1 ta0) d2 ?_
            refine tr_getR dX12_readAlp_67 fl12_260 (kR14 hS5620.1 ta1) d5571 ?_
            refine tr_iload_n dX12_readAlp_70 rfl ?_
            refine tr_aload_n dX12_readAlp_71 rfl ?_
            refine q_iconst dX12_readAlp_72 (by decide) ?_
            intro v5632 h5633
            refine q_bipush dX12_readAlp_73 (by decide +kernel) ?_
            intro v5634 h5635
            refine q_callVi hE (M' := mX12_readWhole) (as := [_, _]) dX12_readAlp_75 lk12_161 inX12_readWhole seX12_readWhole myX12_readWhole (by decide) ⟨by decide, by decide⟩ rfl (kR15 hS5620.1 ta0) (Nat.le_of_ble_eq_true rfl) rfl rfl (by decide) (by decide) (k_X12_readWhole hS5620.1 ta0) ?_
            rintro v5640 cn' K' N' I5636 R5637 L5638 ⟨rfl, rfl, rfl, rfl, g5639, p5641, w5642, -⟩
            have hS5643 := hS5620.tr g5639 (by decide +kernel) (by decide +kernel)
            have c5644 : I5636 a1 0 = v29 := (g5639.cell ta1 (by decide +kernel)).trans c5621
            have c5645 : I5636 a1 1 = v33 := (g5639.cell ta1 (by decide +kernel)).trans c5622
            have b5646 : 0 ≤ v5640.toInt ∧ v5640.toInt ≤ 99 := by omega
            clear p5641
            have hO5647 : FrO 14 a1 T I0 I5636 := hO5623.st g5639 (by decide +kernel)
            have ov5648 := w5642.over (by rw [c5626]; omega)
            obtain ⟨v5649, c5650⟩ : ∃ v, I5636 a0 9 = v := ⟨_, rfl⟩
            have b5651 := iv15_9 hS5643.1 ta0 c5650
            obtain ⟨v5652, c5653⟩ : ∃ v, I5636 a0 13 = v := ⟨_, rfl⟩
            obtain ⟨v5654, c5655⟩ : ∃ v, I5636 a0 14 = v := ⟨_, rfl⟩
            (try rw [c5650] at ov5648)
            (try rw [c5653] at ov5648)
            (try rw [c5655] at ov5648)
            (try rw [c5626] at ov5648)
            (try rw [c5629] at ov5648)
            (try rw [c5631] at ov5648)
            refine q_iast dX12_readAlp_78 (kR53 hS5643.1 ta5570) (ti_in (nR53 hS5643.1 ta5570) (by omega) (by omega)) hS5643 ta5570 (iokF rfl) rfl (by rfl) ?_
            intro I5656 hS5657 e5659 f5658
            have c5660 : I5656 a1 0 = v29 := (f5658 _ _ (fun q => by have z := ta1; rw [q.1, ta5570] at z; exact absurd z (by decide))).trans c5644
            have c5661 : I5656 a1 1 = v33 := (f5658 _ _ (fun q => by have z := ta1; rw [q.1, ta5570] at z; exact absurd z (by decide))).trans c5645
            have c5662 : I5656 a0 9 = v5649 := (f5658 _ _ (fun q => by have z := ta0; rw [q.1, ta5570] at z; exact absurd z (by decide))).trans c5650
            have c5663 : I5656 a0 13 = v5652 := (f5658 _ _ (fun q => by have z := ta0; rw [q.1, ta5570] at z; exact absurd z (by decide))).trans c5653
            have c5664 : I5656 a0 14 = v5654 := (f5658 _ _ (fun q => by have z := ta0; rw [q.1, ta5570] at z; exact absurd z (by decide))).trans c5655
            have hO5665 : FrO 14 a1 T I0 I5656 := hO5647.put f5658 ta5570 (Or.inl (by decide))
            refine q_iincE dX12_readAlp_79 rfl (by decide) (by decide) (by intros; omega) ?_
            intro v5666 h5667
            refine tr_goto 48 dX12_readAlp_82 (by decide) ?_
            refine tr_iload_n dX12_readAlp_48 rfl ?_
            refine q_iconst dX12_readAlp_49 (by decide) ?_
            intro v5668 h5669
            refine q_icmp_ge 85 dX12_readAlp_50 (by decide) (fun h5670 => ?_) (fun h5670 => ?_)
            · skip
              exfalso; omega
            · skip
              refine tr_iload_n dX12_readAlp_53 rfl ?_
              refine q_if_le 63 dX12_readAlp_54 (by decide) (fun h5671 => ?_) (fun h5671 => ?_)
              · skip
                exfalso; omega
              · skip
                refine tr_aload_n dX12_readAlp_57 rfl ?_
                refine q_bipush dX12_readAlp_58 (by decide +kernel) ?_
                intro v5672 h5673
                refine q_callVv hE (M' := mX12_needsSign) (as := [_]) dX12_readAlp_60 lk12_257 inX12_needsSign seX12_needsSign myX12_needsSign (by decide) ⟨by decide, by decide⟩ rfl (kR15 hS5657.1 ta0) (Nat.le_of_ble_eq_true rfl) rfl rfl (by decide) (by decide) (k_X12_needsSign hS5657.1 ta0) ?_
                rintro cn' K' N' I5674 R5675 L5676 ⟨rfl, rfl, rfl, rfl, g5677, w5679, -⟩
                have hS5680 := hS5657.tr g5677 (by decide +kernel) (by decide +kernel)
                have c5681 : I5674 a1 0 = v29 := (g5677.cell ta1 (by decide +kernel)).trans c5660
                have c5682 : I5674 a1 1 = v33 := (g5677.cell ta1 (by decide +kernel)).trans c5661
                have hO5683 : FrO 14 a1 T I0 I5674 := hO5665.st g5677 (by decide +kernel)
                have ov5684 := w5679.over (by rw [c5662]; omega)
                obtain ⟨v5685, c5686⟩ : ∃ v, I5674 a0 9 = v := ⟨_, rfl⟩
                have b5687 := iv15_9 hS5680.1 ta0 c5686
                obtain ⟨v5688, c5689⟩ : ∃ v, I5674 a0 13 = v := ⟨_, rfl⟩
                obtain ⟨v5690, c5691⟩ : ∃ v, I5674 a0 14 = v := ⟨_, rfl⟩
                (try rw [c5686] at ov5684)
                (try rw [c5689] at ov5684)
                (try rw [c5691] at ov5684)
                (try rw [c5662] at ov5684)
                (try rw [c5663] at ov5684)
                (try rw [c5664] at ov5684)
                refine tr_aload_n dX12_readAlp_63 rfl ?_
                refine tr_getR dX12_readAlp_64 fl12_188 (kR15 hS5680.1 ta0) d2 ?_
                refine tr_getR dX12_readAlp_67 fl12_260 (kR14 hS5680.1 ta1) d5571 ?_
                refine tr_iload_n dX12_readAlp_70 rfl ?_
                refine tr_aload_n dX12_readAlp_71 rfl ?_
                refine q_iconst dX12_readAlp_72 (by decide) ?_
                intro v5692 h5693
                refine q_bipush dX12_readAlp_73 (by decide +kernel) ?_
                intro v5694 h5695
                refine q_callVi hE (M' := mX12_readWhole) (as := [_, _]) dX12_readAlp_75 lk12_161 inX12_readWhole seX12_readWhole myX12_readWhole (by decide) ⟨by decide, by decide⟩ rfl (kR15 hS5680.1 ta0) (Nat.le_of_ble_eq_true rfl) rfl rfl (by decide) (by decide) (k_X12_readWhole hS5680.1 ta0) ?_
                rintro v5700 cn' K' N' I5696 R5697 L5698 ⟨rfl, rfl, rfl, rfl, g5699, p5701, w5702, -⟩
                have hS5703 := hS5680.tr g5699 (by decide +kernel) (by decide +kernel)
                have c5704 : I5696 a1 0 = v29 := (g5699.cell ta1 (by decide +kernel)).trans c5681
                have c5705 : I5696 a1 1 = v33 := (g5699.cell ta1 (by decide +kernel)).trans c5682
                have b5706 : 0 ≤ v5700.toInt ∧ v5700.toInt ≤ 99 := by omega
                clear p5701
                have hO5707 : FrO 14 a1 T I0 I5696 := hO5683.st g5699 (by decide +kernel)
                have ov5708 := w5702.over (by rw [c5686]; omega)
                obtain ⟨v5709, c5710⟩ : ∃ v, I5696 a0 9 = v := ⟨_, rfl⟩
                have b5711 := iv15_9 hS5703.1 ta0 c5710
                obtain ⟨v5712, c5713⟩ : ∃ v, I5696 a0 13 = v := ⟨_, rfl⟩
                obtain ⟨v5714, c5715⟩ : ∃ v, I5696 a0 14 = v := ⟨_, rfl⟩
                (try rw [c5710] at ov5708)
                (try rw [c5713] at ov5708)
                (try rw [c5715] at ov5708)
                (try rw [c5686] at ov5708)
                (try rw [c5689] at ov5708)
                (try rw [c5691] at ov5708)
                refine q_iast dX12_readAlp_78 (kR53 hS5703.1 ta5570) (ti_in (nR53 hS5703.1 ta5570) (by omega) (by omega)) hS5703 ta5570 (iokF rfl) rfl (by rfl) ?_
                intro I5716 hS5717 e5719 f5718
                have c5720 : I5716 a1 0 = v29 := (f5718 _ _ (fun q => by have z := ta1; rw [q.1, ta5570] at z; exact absurd z (by decide))).trans c5704
                have c5721 : I5716 a1 1 = v33 := (f5718 _ _ (fun q => by have z := ta1; rw [q.1, ta5570] at z; exact absurd z (by decide))).trans c5705
                have c5722 : I5716 a0 9 = v5709 := (f5718 _ _ (fun q => by have z := ta0; rw [q.1, ta5570] at z; exact absurd z (by decide))).trans c5710
                have c5723 : I5716 a0 13 = v5712 := (f5718 _ _ (fun q => by have z := ta0; rw [q.1, ta5570] at z; exact absurd z (by decide))).trans c5713
                have c5724 : I5716 a0 14 = v5714 := (f5718 _ _ (fun q => by have z := ta0; rw [q.1, ta5570] at z; exact absurd z (by decide))).trans c5715
                have hO5725 : FrO 14 a1 T I0 I5716 := hO5707.put f5718 ta5570 (Or.inl (by decide))
                refine q_iincE dX12_readAlp_79 rfl (by decide) (by decide) (by intros; omega) ?_
                intro v5726 h5727
                refine tr_goto 48 dX12_readAlp_82 (by decide) ?_
                refine tr_iload_n dX12_readAlp_48 rfl ?_
                refine q_iconst dX12_readAlp_49 (by decide) ?_
                intro v5728 h5729
                refine q_icmp_ge 85 dX12_readAlp_50 (by decide) (fun h5730 => ?_) (fun h5730 => ?_)
                · skip
                  exfalso; omega
                · skip
                  refine tr_iload_n dX12_readAlp_53 rfl ?_
                  refine q_if_le 63 dX12_readAlp_54 (by decide) (fun h5731 => ?_) (fun h5731 => ?_)
                  · skip
                    exfalso; omega
                  · skip
                    refine tr_aload_n dX12_readAlp_57 rfl ?_
                    refine q_bipush dX12_readAlp_58 (by decide +kernel) ?_
                    intro v5732 h5733
                    refine q_callVv hE (M' := mX12_needsSign) (as := [_]) dX12_readAlp_60 lk12_257 inX12_needsSign seX12_needsSign myX12_needsSign (by decide) ⟨by decide, by decide⟩ rfl (kR15 hS5717.1 ta0) (Nat.le_of_ble_eq_true rfl) rfl rfl (by decide) (by decide) (k_X12_needsSign hS5717.1 ta0) ?_
                    rintro cn' K' N' I5734 R5735 L5736 ⟨rfl, rfl, rfl, rfl, g5737, w5739, -⟩
                    have hS5740 := hS5717.tr g5737 (by decide +kernel) (by decide +kernel)
                    have c5741 : I5734 a1 0 = v29 := (g5737.cell ta1 (by decide +kernel)).trans c5720
                    have c5742 : I5734 a1 1 = v33 := (g5737.cell ta1 (by decide +kernel)).trans c5721
                    have hO5743 : FrO 14 a1 T I0 I5734 := hO5725.st g5737 (by decide +kernel)
                    have ov5744 := w5739.over (by rw [c5722]; omega)
                    obtain ⟨v5745, c5746⟩ : ∃ v, I5734 a0 9 = v := ⟨_, rfl⟩
                    have b5747 := iv15_9 hS5740.1 ta0 c5746
                    obtain ⟨v5748, c5749⟩ : ∃ v, I5734 a0 13 = v := ⟨_, rfl⟩
                    obtain ⟨v5750, c5751⟩ : ∃ v, I5734 a0 14 = v := ⟨_, rfl⟩
                    (try rw [c5746] at ov5744)
                    (try rw [c5749] at ov5744)
                    (try rw [c5751] at ov5744)
                    (try rw [c5722] at ov5744)
                    (try rw [c5723] at ov5744)
                    (try rw [c5724] at ov5744)
                    refine tr_aload_n dX12_readAlp_63 rfl ?_
                    refine tr_getR dX12_readAlp_64 fl12_188 (kR15 hS5740.1 ta0) d2 ?_
                    refine tr_getR dX12_readAlp_67 fl12_260 (kR14 hS5740.1 ta1) d5571 ?_
                    refine tr_iload_n dX12_readAlp_70 rfl ?_
                    refine tr_aload_n dX12_readAlp_71 rfl ?_
                    refine q_iconst dX12_readAlp_72 (by decide) ?_
                    intro v5752 h5753
                    refine q_bipush dX12_readAlp_73 (by decide +kernel) ?_
                    intro v5754 h5755
                    refine q_callVi hE (M' := mX12_readWhole) (as := [_, _]) dX12_readAlp_75 lk12_161 inX12_readWhole seX12_readWhole myX12_readWhole (by decide) ⟨by decide, by decide⟩ rfl (kR15 hS5740.1 ta0) (Nat.le_of_ble_eq_true rfl) rfl rfl (by decide) (by decide) (k_X12_readWhole hS5740.1 ta0) ?_
                    rintro v5760 cn' K' N' I5756 R5757 L5758 ⟨rfl, rfl, rfl, rfl, g5759, p5761, w5762, -⟩
                    have hS5763 := hS5740.tr g5759 (by decide +kernel) (by decide +kernel)
                    have c5764 : I5756 a1 0 = v29 := (g5759.cell ta1 (by decide +kernel)).trans c5741
                    have c5765 : I5756 a1 1 = v33 := (g5759.cell ta1 (by decide +kernel)).trans c5742
                    have b5766 : 0 ≤ v5760.toInt ∧ v5760.toInt ≤ 99 := by omega
                    clear p5761
                    have hO5767 : FrO 14 a1 T I0 I5756 := hO5743.st g5759 (by decide +kernel)
                    have ov5768 := w5762.over (by rw [c5746]; omega)
                    obtain ⟨v5769, c5770⟩ : ∃ v, I5756 a0 9 = v := ⟨_, rfl⟩
                    have b5771 := iv15_9 hS5763.1 ta0 c5770
                    obtain ⟨v5772, c5773⟩ : ∃ v, I5756 a0 13 = v := ⟨_, rfl⟩
                    obtain ⟨v5774, c5775⟩ : ∃ v, I5756 a0 14 = v := ⟨_, rfl⟩
                    (try rw [c5770] at ov5768)
                    (try rw [c5773] at ov5768)
                    (try rw [c5775] at ov5768)
                    (try rw [c5746] at ov5768)
                    (try rw [c5749] at ov5768)
                    (try rw [c5751] at ov5768)
                    refine q_iast dX12_readAlp_78 (kR53 hS5763.1 ta5570) (ti_in (nR53 hS5763.1 ta5570) (by omega) (by omega)) hS5763 ta5570 (iokF rfl) rfl (by rfl) ?_
                    intro I5776 hS5777 e5779 f5778
                    have c5780 : I5776 a1 0 = v29 := (f5778 _ _ (fun q => by have z := ta1; rw [q.1, ta5570] at z; exact absurd z (by decide))).trans c5764
                    have c5781 : I5776 a1 1 = v33 := (f5778 _ _ (fun q => by have z := ta1; rw [q.1, ta5570] at z; exact absurd z (by decide))).trans c5765
                    have c5782 : I5776 a0 9 = v5769 := (f5778 _ _ (fun q => by have z := ta0; rw [q.1, ta5570] at z; exact absurd z (by decide))).trans c5770
                    have c5783 : I5776 a0 13 = v5772 := (f5778 _ _ (fun q => by have z := ta0; rw [q.1, ta5570] at z; exact absurd z (by decide))).trans c5773
                    have c5784 : I5776 a0 14 = v5774 := (f5778 _ _ (fun q => by have z := ta0; rw [q.1, ta5570] at z; exact absurd z (by decide))).trans c5775
                    have hO5785 : FrO 14 a1 T I0 I5776 := hO5767.put f5778 ta5570 (Or.inl (by decide))
                    refine q_iincE dX12_readAlp_79 rfl (by decide) (by decide) (by intros; omega) ?_
                    intro v5786 h5787
                    refine tr_goto 48 dX12_readAlp_82 (by decide) ?_
                    refine tr_iload_n dX12_readAlp_48 rfl ?_
                    refine q_iconst dX12_readAlp_49 (by decide) ?_
                    intro v5788 h5789
                    refine q_icmp_ge 85 dX12_readAlp_50 (by decide) (fun h5790 => ?_) (fun h5790 => ?_)
                    · skip
                      exfalso; omega
                    · skip
                      refine tr_iload_n dX12_readAlp_53 rfl ?_
                      refine q_if_le 63 dX12_readAlp_54 (by decide) (fun h5791 => ?_) (fun h5791 => ?_)
                      · skip
                        exfalso; omega
                      · skip
                        refine tr_aload_n dX12_readAlp_57 rfl ?_
                        refine q_bipush dX12_readAlp_58 (by decide +kernel) ?_
                        intro v5792 h5793
                        refine q_callVv hE (M' := mX12_needsSign) (as := [_]) dX12_readAlp_60 lk12_257 inX12_needsSign seX12_needsSign myX12_needsSign (by decide) ⟨by decide, by decide⟩ rfl (kR15 hS5777.1 ta0) (Nat.le_of_ble_eq_true rfl) rfl rfl (by decide) (by decide) (k_X12_needsSign hS5777.1 ta0) ?_
                        rintro cn' K' N' I5794 R5795 L5796 ⟨rfl, rfl, rfl, rfl, g5797, w5799, -⟩
                        have hS5800 := hS5777.tr g5797 (by decide +kernel) (by decide +kernel)
                        have c5801 : I5794 a1 0 = v29 := (g5797.cell ta1 (by decide +kernel)).trans c5780
                        have c5802 : I5794 a1 1 = v33 := (g5797.cell ta1 (by decide +kernel)).trans c5781
                        have hO5803 : FrO 14 a1 T I0 I5794 := hO5785.st g5797 (by decide +kernel)
                        have ov5804 := w5799.over (by rw [c5782]; omega)
                        obtain ⟨v5805, c5806⟩ : ∃ v, I5794 a0 9 = v := ⟨_, rfl⟩
                        have b5807 := iv15_9 hS5800.1 ta0 c5806
                        obtain ⟨v5808, c5809⟩ : ∃ v, I5794 a0 13 = v := ⟨_, rfl⟩
                        obtain ⟨v5810, c5811⟩ : ∃ v, I5794 a0 14 = v := ⟨_, rfl⟩
                        (try rw [c5806] at ov5804)
                        (try rw [c5809] at ov5804)
                        (try rw [c5811] at ov5804)
                        (try rw [c5782] at ov5804)
                        (try rw [c5783] at ov5804)
                        (try rw [c5784] at ov5804)
                        refine tr_aload_n dX12_readAlp_63 rfl ?_
                        refine tr_getR dX12_readAlp_64 fl12_188 (kR15 hS5800.1 ta0) d2 ?_
                        refine tr_getR dX12_readAlp_67 fl12_260 (kR14 hS5800.1 ta1) d5571 ?_
                        refine tr_iload_n dX12_readAlp_70 rfl ?_
                        refine tr_aload_n dX12_readAlp_71 rfl ?_
                        refine q_iconst dX12_readAlp_72 (by decide) ?_
                        intro v5812 h5813
                        refine q_bipush dX12_readAlp_73 (by decide +kernel) ?_
                        intro v5814 h5815
                        refine q_callVi hE (M' := mX12_readWhole) (as := [_, _]) dX12_readAlp_75 lk12_161 inX12_readWhole seX12_readWhole myX12_readWhole (by decide) ⟨by decide, by decide⟩ rfl (kR15 hS5800.1 ta0) (Nat.le_of_ble_eq_true rfl) rfl rfl (by decide) (by decide) (k_X12_readWhole hS5800.1 ta0) ?_
                        rintro v5820 cn' K' N' I5816 R5817 L5818 ⟨rfl, rfl, rfl, rfl, g5819, p5821, w5822, -⟩
                        have hS5823 := hS5800.tr g5819 (by decide +kernel) (by decide +kernel)
                        have c5824 : I5816 a1 0 = v29 := (g5819.cell ta1 (by decide +kernel)).trans c5801
                        have c5825 : I5816 a1 1 = v33 := (g5819.cell ta1 (by decide +kernel)).trans c5802
                        have b5826 : 0 ≤ v5820.toInt ∧ v5820.toInt ≤ 99 := by omega
                        clear p5821
                        have hO5827 : FrO 14 a1 T I0 I5816 := hO5803.st g5819 (by decide +kernel)
                        have ov5828 := w5822.over (by rw [c5806]; omega)
                        obtain ⟨v5829, c5830⟩ : ∃ v, I5816 a0 9 = v := ⟨_, rfl⟩
                        have b5831 := iv15_9 hS5823.1 ta0 c5830
                        obtain ⟨v5832, c5833⟩ : ∃ v, I5816 a0 13 = v := ⟨_, rfl⟩
                        obtain ⟨v5834, c5835⟩ : ∃ v, I5816 a0 14 = v := ⟨_, rfl⟩
                        (try rw [c5830] at ov5828)
                        (try rw [c5833] at ov5828)
                        (try rw [c5835] at ov5828)
                        (try rw [c5806] at ov5828)
                        (try rw [c5809] at ov5828)
                        (try rw [c5811] at ov5828)
                        refine q_iast dX12_readAlp_78 (kR53 hS5823.1 ta5570) (ti_in (nR53 hS5823.1 ta5570) (by omega) (by omega)) hS5823 ta5570 (iokF rfl) rfl (by rfl) ?_
                        intro I5836 hS5837 e5839 f5838
                        have c5840 : I5836 a1 0 = v29 := (f5838 _ _ (fun q => by have z := ta1; rw [q.1, ta5570] at z; exact absurd z (by decide))).trans c5824
                        have c5841 : I5836 a1 1 = v33 := (f5838 _ _ (fun q => by have z := ta1; rw [q.1, ta5570] at z; exact absurd z (by decide))).trans c5825
                        have c5842 : I5836 a0 9 = v5829 := (f5838 _ _ (fun q => by have z := ta0; rw [q.1, ta5570] at z; exact absurd z (by decide))).trans c5830
                        have c5843 : I5836 a0 13 = v5832 := (f5838 _ _ (fun q => by have z := ta0; rw [q.1, ta5570] at z; exact absurd z (by decide))).trans c5833
                        have c5844 : I5836 a0 14 = v5834 := (f5838 _ _ (fun q => by have z := ta0; rw [q.1, ta5570] at z; exact absurd z (by decide))).trans c5835
                        have hO5845 : FrO 14 a1 T I0 I5836 := hO5827.put f5838 ta5570 (Or.inl (by decide))
                        refine q_iincE dX12_readAlp_79 rfl (by decide) (by decide) (by intros; omega) ?_
                        intro v5846 h5847
                        refine tr_goto 48 dX12_readAlp_82 (by decide) ?_
                        refine tr_iload_n dX12_readAlp_48 rfl ?_
                        refine q_iconst dX12_readAlp_49 (by decide) ?_
                        intro v5848 h5849
                        refine q_icmp_ge 85 dX12_readAlp_50 (by decide) (fun h5850 => ?_) (fun h5850 => ?_)
                        · skip
                          refine tr_aload_n dX12_readAlp_85 rfl ?_
                          refine q_getI dX12_readAlp_86 fl12_99 (kR15 hS5837.1 ta0) c5842 ?_
                          refine q_iconst dX12_readAlp_89 (by decide) ?_
                          intro v5851 h5852
                          refine q_icmp_ne 94 dX12_readAlp_90 (by decide) (fun h5853 => ?_) (fun h5853 => ?_)
                          · skip
                            exfalso; omega
                          · skip
                            have eF := hF.eq
                            have eP := hP.eq
                            obtain ⟨v5854, c5855⟩ : ∃ v, I5836 a0 10 = v := ⟨_, rfl⟩
                            have b5856 := iv15_10 hS5837.1 ta0 c5855
                            obtain ⟨v5857, c5858⟩ : ∃ v, I5836 a0 11 = v := ⟨_, rfl⟩
                            obtain ⟨y5859, c5860⟩ : ∃ v, L5818 a0 15 = v := ⟨_, rfl⟩
                            obtain ⟨v5861, c5862⟩ : ∃ v, I5836 a0 12 = v := ⟨_, rfl⟩
                            obtain ⟨v5863, c5864⟩ : ∃ v, I5836 a0 8 = v := ⟨_, rfl⟩
                            have b5865 := iv15_8 hS5837.1 ta0 c5864
                            exact tr_vret hZ dX12_readAlp_93 rfl (by decide) (by decide) ⟨rfl, rfl, rfl, rfl, rfl, hS5837, (fun dr hd => (Option.some.inj (d2.symm.trans hd)) ▸ hO5845), (Or.inr (⟨(by first | done | with_reducible assumption | omega), (by (try rw [c5842]); first | done | with_reducible assumption | omega), (by (try rw [c5843]); first | done | with_reducible assumption | omega), (by (try rw [c5844]); first | done | with_reducible assumption | omega), trivial⟩)), trivial⟩
                        · skip
                          exfalso; omega
      · skip
        exfalso; omega
