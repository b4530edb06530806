set_option maxHeartbeats 4000000 in
theorem fk_X11_find {l : Launch} {T : Nat → Nat} {cn : Nat} {K N : Nat → Nat} {I0 : cz_I} {R0 : cz_R} {L0 : cz_L} {d : Int} (hW0 : Wf T cn K N I0 R0 d) (gw : Int) {a0 : Nat} (ta0 : T a0 = 14) {y1 : Int64} (pre0 : y1.toInt = (gw)) : ConE l mX11_find [.ref a0, .long y1] cn K N I0 R0 L0 (ca_i (fun v cn' K' N' I' R' L' => cn = cn' ∧ K = K' ∧ N = N' ∧ I0 = I' ∧ R0 = R' ∧ L0 = L' ∧ ((-1) ≤ v.toInt ∧ v.toInt ≤ 12) ∧ (FdM L0 R0 a0 (I0 a0 7).toInt gw v) ∧ True)) := by
  refine ConE.of (by decide +kernel) rfl (Nat.le_of_ble_eq_true rfl) rfl (fun X hX hZ hE => ?_)
  subst hX
  have p1 := pre0
  obtain ⟨a2, d3, ta2⟩ := rf14_30 hW0 ta0
  refine q_iconst dX11_find_0 (by decide) ?_
  intro v4 h5
  refine tr_istore_n dX11_find_1 (by decide) (by decide) ?_
  have lp13 : ∀ (fu : Nat) (ls : Nat → Option Value) (v6 : Int32), ls 0 = some (.ref a0) → ls 1 = some (.long y1) → ls 3 = some (.int v6) → 0 ≤ v6.toInt → v6.toInt ≤ 13 → (∀ k : Nat, (k : Int) < v6.toInt → (L0 a2 k).toInt ≠ gw) → (-v6.toInt + 2147483647).toNat < fu → Tr X mX11_find 2 ls [] cn K N I0 R0 L0 0 0 := by
    intro fu
    induction fu with
    | zero => intros; rename_i hz; exact absurd hz (Nat.not_lt_zero _)
    | succ fu ih13 =>
      intro ls v6 hl7 hl8 hl9 g10 g11 rw12 hm13
      refine tr_iload_n dX11_find_2 hl9 ?_
      refine tr_aload_n dX11_find_3 hl7 ?_
      obtain ⟨v15, c16⟩ : ∃ v, I0 a0 7 = v := ⟨_, rfl⟩
      have b17 := iv14_7 hW0 ta0 c16
      refine q_getI dX11_find_4 fl11_83 (kR14 hW0 ta0) c16 ?_
      refine q_icmp_ge 29 dX11_find_7 (by decide) (fun h18 => ?_) (fun h18 => ?_)
      · skip
        refine q_iconst dX11_find_29 (by decide) ?_
        intro v19 h20
        exact tr_iret hZ dX11_find_30 rfl (by decide) (by decide) ⟨v19, rfl, rfl, rfl, rfl, rfl, rfl, rfl, (by omega), (fun t ht => by obtain rfl := Option.some.inj (d3.symm.trans ht); exact Or.inl ⟨by omega, fun k hk => rw12 k (by rw [c16] at hk; omega)⟩), trivial⟩
      · skip
        refine tr_aload_n dX11_find_10 hl7 ?_
        refine tr_getR dX11_find_11 fl11_73 (kR14 hW0 ta0) d3 ?_
        refine tr_iload_n dX11_find_14 hl9 ?_
        refine q_laldE dX11_find_15 (kR73 hW0 ta2) (ti_in (nR73 hW0 ta2) (by omega) (by omega)) ?_
        intro y21 c22
        refine tr_lload_n dX11_find_16 hl8 ?_
        refine q_lcmpNe 23 dX11_find_17 dX11_find_18 (by decide) (fun h23 => ?_) (fun h23 => ?_)
        · skip
          refine q_iincE dX11_find_23 hl9 (by decide) (by decide) (by intros; omega) ?_
          intro v24 h25
          refine tr_goto 2 dX11_find_26 (by decide) ?_
          exact ih13 _ v24 hl7 hl8 rfl (by omega) (by omega) (fun k hk => by by_cases q : (k : Int) < v6.toInt; exact rw12 k q; rw [show k = v6.toNatClampNeg by have q := ti_nat (i := v6) (by omega); omega, c22]; omega) (by omega)
        · skip
          refine tr_iload_n dX11_find_21 hl9 ?_
          exact tr_iret hZ dX11_find_22 rfl (by decide) (by decide) ⟨v6, rfl, rfl, rfl, rfl, rfl, rfl, rfl, (by omega), (fun t ht => by obtain rfl := Option.some.inj (d3.symm.trans ht); exact Or.inr ⟨by omega, by rw [c16]; omega, (congrArg Int64.toInt c22).trans (by omega)⟩), trivial⟩
  exact lp13 _ _ v4 rfl rfl rfl (by omega) (by omega) (fun k hk => by omega) (Nat.lt_succ_self _)
def wik_X12_readFresh : List Nat := [968, 969, 970, 971, 972, 973, 974]
def wrk_X12_readFresh : List Nat := []
def wlk_X12_readFresh : List Nat := [975]
set_option maxHeartbeats 4000000 in
theorem fk_X12_readFresh {l : Launch} {T : Nat → Nat} {cn : Nat} {K N : Nat → Nat} {I0 : cz_I} {R0 : cz_R} {L0 : cz_L} (hW0 : Wf T cn K N I0 R0 0) (gB : cz_B) (gs : Int) (gQ : Nat → Int) {a0 : Nat} (ta0 : T a0 = 15) (hT : ∀ t, R0 a0 5 = some t → Tx I0 t gB) (hN : ∀ b, R0 a0 4 = some b → NmM I0 R0 L0 b gQ) (pre0 : (I0 a0 9).toInt = (tkM gB gs)) (pre1 : (I0 a0 9).toInt ≤ 4) (pre2 : (I0 a0 10).toInt = (tkS gB gs)) (pre3 : (I0 a0 11).toInt = (tkG gB gs)) (pre4 : (AtW ((tkK gB gs)) ((L0 a0 15).toInt) ((tkW gB gs)))) (pre5 : (AtV ((tkK gB gs)) ((I0 a0 12).toInt) ((tkV gB gs)))) (pre6 : (AtN ((tkK gB gs)) ((I0 a0 8).toInt) ((tkN gB gs)))) (pre7 : (I0 a0 7).toInt = (gB.2)) (pre8 : ∀ b1, R0 a0 4 = some b1 → (I0 b1 3).toInt = (gQ 3)) (pre9 : ∀ b1, R0 a0 4 = some b1 → (I0 b1 4).toInt = (gQ 4)) (nn4 : ∃ b, R0 a0 4 = some b) : ConE l mX12_readFresh [.ref a0] cn K N I0 R0 L0 (ca_l (fun v cn' K' N' I' R' L' => cn = cn' ∧ K = K' ∧ N = N' ∧ R0 = R' ∧ St T cn K N 0 wik_X12_readFresh wrk_X12_readFresh I0 R0 I' R0 ∧ (((v.toInt = (tkW gB gs)) ∧ ((isN gB gs) = 1) ∧ ((tkK gB gs) = 1) ∧ ((nmI gQ 100 (gQ 3) (tkW gB gs)) = -1) ∧ ((nmI gQ 200 (gQ 4) (tkW gB gs)) = -1) ∧ ((I' a0 13).toInt = (I0 a0 13).toInt) ∧ ((I' a0 9).toInt = (tkM gB (tkN gB gs))) ∧ ((I' a0 9).toInt ≤ 4) ∧ ((I' a0 10).toInt = (tkS gB (tkN gB gs))) ∧ ((I' a0 11).toInt = (tkG gB (tkN gB gs))) ∧ ((AtW ((tkK gB (tkN gB gs))) ((L' a0 15).toInt) ((tkW gB (tkN gB gs))))) ∧ ((AtV ((tkK gB (tkN gB gs))) ((I' a0 12).toInt) ((tkV gB (tkN gB gs))))) ∧ ((AtN ((tkK gB (tkN gB gs))) ((I' a0 8).toInt) ((tkN gB (tkN gB gs))))) ∧ LgS T wlk_X12_readFresh L0 L' ∧ True) ∨ (((isN gB gs) ≠ 1) ∧ ((I' a0 9).toInt = 5) ∧ ((I' a0 13).toInt = 1) ∧ ((I' a0 14).toInt = (tkS gB gs)) ∧ True) ∨ (((isN gB gs) = 1) ∧ (((nmI gQ 100 (gQ 3) (tkW gB gs)) ≠ -1 ∨ (nmI gQ 200 (gQ 4) (tkW gB gs)) ≠ -1)) ∧ ((I' a0 9).toInt = 5) ∧ ((I' a0 13).toInt = 3) ∧ ((I' a0 14).toInt = (tkS gB gs)) ∧ True)) ∧ True)) := by
  refine ConE.of (by decide +kernel) rfl (Nat.le_of_ble_eq_true rfl) rfl (fun X hX hZ hE => ?_)
  subst hX
  have hS0 : St T cn K N 0 wik_X12_readFresh wrk_X12_readFresh I0 R0 I0 R0 := St.rf0 hW0
  have hL0 : LgS T wlk_X12_readFresh L0 L0 := LgS.rf0
  obtain ⟨a1, d2⟩ := nn4
  have ta1 : T a1 = 14 := hW0.rsN ta0 rfl d2
  obtain ⟨v3, c4⟩ : ∃ v, I0 a0 9 = v := ⟨_, rfl⟩
  have b5 := iv15_9 hS0.1 ta0 c4
  have p6 := pre0
  rw [c4] at p6
  have p7 := pre1
  rw [c4] at p7
  obtain ⟨v8, c9⟩ : ∃ v, I0 a0 10 = v := ⟨_, rfl⟩
  have b10 := iv15_10 hS0.1 ta0 c9
  have p11 := pre2
  rw [c9] at p11
  obtain ⟨v12, c13⟩ : ∃ v, I0 a0 11 = v := ⟨_, rfl⟩
  have p14 := pre3
  rw [c13] at p14
  obtain ⟨y15, c16⟩ : ∃ v, L0 a0 15 = v := ⟨_, rfl⟩
  have p17 := pre4
  rw [c16] at p17
  obtain ⟨v18, c19⟩ : ∃ v, I0 a0 12 = v := ⟨_, rfl⟩
  have p20 := pre5
  rw [c19] at p20
  obtain ⟨v21, c22⟩ : ∃ v, I0 a0 8 = v := ⟨_, rfl⟩
  have b23 := iv15_8 hS0.1 ta0 c22
  have p24 := pre6
  rw [c22] at p24
  obtain ⟨v25, c26⟩ : ∃ v, I0 a0 7 = v := ⟨_, rfl⟩
  have b27 := iv15_7 hW0 ta0 c26
  have p28 := pre7
  rw [c26] at p28
  obtain ⟨v29, c30⟩ : ∃ v, I0 a1 3 = v := ⟨_, rfl⟩
  have b31 := iv14_3 hW0 ta1 c30
  have p32 := pre8 _ d2
  rw [c30] at p32
  obtain ⟨v33, c34⟩ : ∃ v, I0 a1 4 = v := ⟨_, rfl⟩
  have b35 := iv14_4 hW0 ta1 c34
  have p36 := pre9 _ d2
  rw [c34] at p36
  obtain ⟨v37, c38⟩ : ∃ v, I0 a0 13 = v := ⟨_, rfl⟩
  have hM0 := hN _ d2
  refine tr_aload_n dX12_readFresh_0 rfl ?_
  refine q_callVi hE (M' := mX12_isName) (as := []) dX12_readFresh_1 lk12_197 inX12_isName seX12_isName myX12_isName (by decide) ⟨by decide, by decide⟩ rfl (kR15 hS0.1 ta0) (Nat.le_of_ble_eq_true rfl) rfl rfl (by decide) (by decide) (fk_X12_isName hS0.1 (gB) (gs) ta0 (by (try rw [c4]); first | done | omega) (by (try rw [c16]); first | done | assumption)) ?_
  rintro v44 cn' K' N' I39 R40 L41 ⟨rfl, rfl, rfl, rfl, rfl, rfl, h45, dj46, -⟩
  rcases dj46 with ⟨p47, p48, p49, -⟩ | ⟨p50, p51, -⟩
  · skip
    refine q_if_ne 12 dX12_readFresh_4 (by decide) (fun h52 => ?_) (fun h52 => ?_)
    · skip
      refine tr_aload_n dX12_readFresh_12 rfl ?_
      refine tr_getR dX12_readFresh_13 fl12_188 (kR15 hS0.1 ta0) d2 ?_
      refine tr_aload_n dX12_readFresh_16 rfl ?_
      have p53 := p17 (by omega)
      refine q_getLE dX12_readFresh_17 fl12_118 (kR15 hS0.1 ta0) c16 ?_
      refine q_callVi hE (M' := mX11_find) (as := [_]) dX12_readFresh_20 lk12_201 inX11_find seX11_find myX11_find (by decide) ⟨by decide, by decide⟩ rfl (kR14 hS0.1 ta1) (Nat.le_of_ble_eq_true rfl) rfl rfl (by decide) (by decide) (fk_X11_find hS0.1 ((tkW gB gs)) ta1 (by first | done | omega)) ?_
      rintro v59 cn' K' N' I54 R55 L56 ⟨rfl, rfl, rfl, rfl, rfl, rfl, h60, rp61, -⟩
      obtain ⟨v64, c65⟩ : ∃ v, I0 a1 7 = v := ⟨_, rfl⟩
      have b66 := iv14_7 hW0 ta1 c65
      have p63 := hS0.1.2.2.2.2.1 a0 ta0 _ d2
      rw [c65, c30, c34] at p63
      have fd62 := fd_told hM0 hS0.1 ta1 rp61 (by rw [c65]; omega)
      rw [c65] at fd62
      refine q_iconst dX12_readFresh_23 (by decide) ?_
      intro v67 h68
      refine q_icmp_eq 32 dX12_readFresh_24 (by decide) (fun h69 => ?_) (fun h69 => ?_)
      · skip
        refine tr_aload_n dX12_readFresh_32 rfl ?_
        refine q_getLE dX12_readFresh_33 fl12_118 (kR15 hS0.1 ta0) c16 ?_
        refine tr_lstore_n dX12_readFresh_36 (by decide) (by decide) (by decide) ?_
        refine tr_aload_n dX12_readFresh_37 rfl ?_
        have p70 := p24 (by omega)
        refine q_callVv hE (M' := mX12_goesOn) (as := []) dX12_readFresh_38 lk12_142 inX12_goesOn seX12_goesOn myX12_goesOn (by decide) ⟨by decide, by decide⟩ rfl (kR15 hS0.1 ta0) (Nat.le_of_ble_eq_true rfl) rfl rfl (by decide) (by decide) (fk_X12_goesOn hS0.1 (gB) ((tkN gB gs)) ta0 (TxA.kp hT hS0 ta0 rfl rfl rfl (by decide +kernel) (by decide +kernel)) (by (try rw [c22]); first | done | omega) (by (try rw [c26]); first | done | omega) (by (try rw [c4]); first | done | omega)) ?_
        rintro cn' K' N' I71 R72 L73 ⟨rfl, rfl, rfl, rfl, g74, gl75, p77, p78, p79, p80, p81, p82, p83, -⟩
        have hM84 : NmM I71 R0 L0 a1 gQ := NmM.kpS hM0 g74 hS0.1 ta1 (by decide +kernel) (by decide +kernel)
        have hS85 := hS0.tr g74 (by decide +kernel) (by decide +kernel)
        have c86 : I71 a0 13 = v37 := (g74.cell ta0 (by decide +kernel)).trans c38
        have hL87 := hL0.tr gl75 (by decide +kernel)
        have hM88 : NmM I71 R0 L73 a1 gQ := NmM.kpL hM84 gl75 hS85.1 ta1 (by decide +kernel)
        obtain ⟨v89, c90⟩ : ∃ v, I71 a0 9 = v := ⟨_, rfl⟩
        have b91 := iv15_9 hS85.1 ta0 c90
        rw [c90] at p77
        rw [c90] at p78
        obtain ⟨v92, c93⟩ : ∃ v, I71 a0 10 = v := ⟨_, rfl⟩
        have b94 := iv15_10 hS85.1 ta0 c93
        rw [c93] at p79
        obtain ⟨v95, c96⟩ : ∃ v, I71 a0 11 = v := ⟨_, rfl⟩
        rw [c96] at p80
        obtain ⟨y97, c98⟩ : ∃ v, L73 a0 15 = v := ⟨_, rfl⟩
        rw [c98] at p81
        obtain ⟨v99, c100⟩ : ∃ v, I71 a0 12 = v := ⟨_, rfl⟩
        rw [c100] at p82
        obtain ⟨v101, c102⟩ : ∃ v, I71 a0 8 = v := ⟨_, rfl⟩
        have b103 := iv15_8 hS85.1 ta0 c102
        rw [c102] at p83
        refine tr_lload_n dX12_readFresh_41 rfl ?_
        obtain ⟨v104, c105⟩ : ∃ v, I71 a0 14 = v := ⟨_, rfl⟩
        exact tr_lret hZ dX12_readFresh_42 rfl (by decide) (by decide) ⟨y15, rfl, rfl, rfl, rfl, rfl, hS85, (Or.inl ⟨(by first | done | omega), (by first | done | omega), (by first | done | omega), (by first | done | omega), (by first | done | omega), (by (try rw [c86]); (try rw [c38]); first | done | omega), (by (try rw [c90]); first | done | omega), (by (try rw [c90]); first | done | omega), (by (try rw [c93]); first | done | omega), (by (try rw [c96]); first | done | omega), (by (try rw [c98]); first | done | assumption), (by (try rw [c100]); first | done | assumption), (by (try rw [c102]); first | done | assumption), hL87, trivial⟩), trivial⟩
      · skip
        refine tr_aload_n dX12_readFresh_27 rfl ?_
        refine q_iconst dX12_readFresh_28 (by decide) ?_
        intro v106 h107
        refine q_callVv hE (M' := mX12_flaw) (as := [_]) dX12_readFresh_29 lk12_145 inX12_flaw seX12_flaw myX12_flaw (by decide) ⟨by decide, by decide⟩ rfl (kR15 hS0.1 ta0) (Nat.le_of_ble_eq_true rfl) rfl rfl (by decide) (by decide) (fk_X12_flaw hS0.1  ta0 (by omega) (by (try rw [c4]); first | done | omega)) ?_
        rintro cn' K' N' I108 R109 L110 ⟨rfl, rfl, rfl, rfl, rfl, g111, p114, p115, p116, -⟩
        have hM117 : NmM I108 R0 L0 a1 gQ := NmM.kpS hM0 g111 hS0.1 ta1 (by decide +kernel) (by decide +kernel)
        have hS118 := hS0.tr g111 (by decide +kernel) (by decide +kernel)
        have c119 : I108 a0 10 = v8 := (g111.cell ta0 (by decide +kernel)).trans c9
        have c120 : I108 a0 11 = v12 := (g111.cell ta0 (by decide +kernel)).trans c13
        have c121 : I108 a0 12 = v18 := (g111.cell ta0 (by decide +kernel)).trans c19
        have c122 : I108 a0 8 = v21 := (g111.cell ta0 (by decide +kernel)).trans c22
        obtain ⟨v123, c124⟩ : ∃ v, I108 a0 9 = v := ⟨_, rfl⟩
        have b125 := iv15_9 hS118.1 ta0 c124
        rw [c124] at p114
        obtain ⟨v126, c127⟩ : ∃ v, I108 a0 13 = v := ⟨_, rfl⟩
        rw [c127] at p115
        obtain ⟨v128, c129⟩ : ∃ v, I108 a0 14 = v := ⟨_, rfl⟩
        rw [c129] at p116
        rw [c9] at p116
        refine tr_aload_n dX12_readFresh_32 rfl ?_
        refine q_getLE dX12_readFresh_33 fl12_118 (kR15 hS118.1 ta0) c16 ?_
        refine tr_lstore_n dX12_readFresh_36 (by decide) (by decide) (by decide) ?_
        refine tr_aload_n dX12_readFresh_37 rfl ?_
        refine q_callVv hE (M' := mX12_goesOn) (as := []) dX12_readFresh_38 lk12_142 inX12_goesOn seX12_goesOn myX12_goesOn (by decide) ⟨by decide, by decide⟩ rfl (kR15 hS118.1 ta0) (Nat.le_of_ble_eq_true rfl) rfl rfl (by decide) (by decide) (k_X12_goesOn hS118.1 ta0) ?_
        rintro cn' K' N' I130 R131 L132 ⟨rfl, rfl, rfl, rfl, g133, p135, p136, p137, w138, -⟩
        have hS139 := hS118.tr g133 (by decide +kernel) (by decide +kernel)
        have c140 : I130 a0 13 = v126 := (g133.cell ta0 (by decide +kernel)).trans c127
        have c141 : I130 a0 14 = v128 := (g133.cell ta0 (by decide +kernel)).trans c129
        obtain ⟨v142, c143⟩ : ∃ v, I130 a0 9 = v := ⟨_, rfl⟩
        have b144 := iv15_9 hS139.1 ta0 c143
        rw [c124] at p135
        rw [c143] at p135
        rw [c124] at p136
        rw [c143] at p136
        obtain ⟨v145, c146⟩ : ∃ v, I130 a0 8 = v := ⟨_, rfl⟩
        have b147 := iv15_8 hS139.1 ta0 c146
        rw [c146] at p137
        rw [c122] at p137
        rw [c140] at p137
        rw [c127] at p137
        have ov148 := w138.over (by rw [c124]; omega)
        obtain ⟨v149, c150⟩ : ∃ v, I130 a0 9 = v := ⟨_, rfl⟩
        have b151 := iv15_9 hS139.1 ta0 c150
        obtain ⟨v152, c153⟩ : ∃ v, I130 a0 13 = v := ⟨_, rfl⟩
        obtain ⟨v154, c155⟩ : ∃ v, I130 a0 14 = v := ⟨_, rfl⟩
        (try rw [c150] at ov148)
        (try rw [c153] at ov148)
        (try rw [c155] at ov148)
        (try rw [c124] at ov148)
        (try rw [c127] at ov148)
        (try rw [c129] at ov148)
        refine tr_lload_n dX12_readFresh_41 rfl ?_
        obtain ⟨v156, c157⟩ : ∃ v, I130 a0 10 = v := ⟨_, rfl⟩
        have b158 := iv15_10 hS139.1 ta0 c157
        obtain ⟨v159, c160⟩ : ∃ v, I130 a0 11 = v := ⟨_, rfl⟩
        obtain ⟨y161, c162⟩ : ∃ v, L132 a0 15 = v := ⟨_, rfl⟩
        obtain ⟨v163, c164⟩ : ∃ v, I130 a0 12 = v := ⟨_, rfl⟩
        exact tr_lret hZ dX12_readFresh_42 rfl (by decide) (by decide) ⟨y15, rfl, rfl, rfl, rfl, rfl, hS139, (Or.inr (Or.inr (⟨(by first | done | omega), (by first | done | omega), (by (try rw [c150]); first | done | omega), (by (try rw [c153]); first | done | omega), (by (try rw [c155]); first | done | omega), trivial⟩))), trivial⟩
    · skip
      exfalso; omega
  · skip
    refine q_if_ne 12 dX12_readFresh_4 (by decide) (fun h165 => ?_) (fun h165 => ?_)
    · skip
      exfalso; omega
    · skip
      refine tr_aload_n dX12_readFresh_7 rfl ?_
      refine q_iconst dX12_readFresh_8 (by decide) ?_
      intro v166 h167
      refine q_callVv hE (M' := mX12_flaw) (as := [_]) dX12_readFresh_9 lk12_145 inX12_flaw seX12_flaw myX12_flaw (by decide) ⟨by decide, by decide⟩ rfl (kR15 hS0.1 ta0) (Nat.le_of_ble_eq_true rfl) rfl rfl (by decide) (by decide) (fk_X12_flaw hS0.1  ta0 (by omega) (by (try rw [c4]); first | done | omega)) ?_
      rintro cn' K' N' I168 R169 L170 ⟨rfl, rfl, rfl, rfl, rfl, g171, p174, p175, p176, -⟩
      have hM177 : NmM I168 R0 L0 a1 gQ := NmM.kpS hM0 g171 hS0.1 ta1 (by decide +kernel) (by decide +kernel)
      have hS178 := hS0.tr g171 (by decide +kernel) (by decide +kernel)
      have c179 : I168 a0 10 = v8 := (g171.cell ta0 (by decide +kernel)).trans c9
      have c180 : I168 a0 11 = v12 := (g171.cell ta0 (by decide +kernel)).trans c13
      have c181 : I168 a0 12 = v18 := (g171.cell ta0 (by decide +kernel)).trans c19
      have c182 : I168 a0 8 = v21 := (g171.cell ta0 (by decide +kernel)).trans c22
      obtain ⟨v183, c184⟩ : ∃ v, I168 a0 9 = v := ⟨_, rfl⟩
      have b185 := iv15_9 hS178.1 ta0 c184
      rw [c184] at p174
      obtain ⟨v186, c187⟩ : ∃ v, I168 a0 13 = v := ⟨_, rfl⟩
      rw [c187] at p175
      obtain ⟨v188, c189⟩ : ∃ v, I168 a0 14 = v := ⟨_, rfl⟩
      rw [c189] at p176
      rw [c9] at p176
      refine tr_aload_n dX12_readFresh_12 rfl ?_
      refine tr_getR dX12_readFresh_13 fl12_188 (kR15 hS178.1 ta0) d2 ?_
      refine tr_aload_n dX12_readFresh_16 rfl ?_
      refine q_getLE dX12_readFresh_17 fl12_118 (kR15 hS178.1 ta0) c16 ?_
      refine q_callVi hE (M' := mX11_find) (as := [_]) dX12_readFresh_20 lk12_201 inX11_find seX11_find myX11_find (by decide) ⟨by decide, by decide⟩ rfl (kR14 hS178.1 ta1) (Nat.le_of_ble_eq_true rfl) rfl rfl (by decide) (by decide) (k_X11_find hS178.1 ta1) ?_
      rintro v194 cn' K' N' I190 R191 L192 ⟨rfl, rfl, rfl, rfl, rfl, rfl, h195, -⟩
      refine q_iconst dX12_readFresh_23 (by decide) ?_
      intro v196 h197
      refine q_icmp_eq 32 dX12_readFresh_24 (by decide) (fun h198 => ?_) (fun h198 => ?_)
      · skip
        refine tr_aload_n dX12_readFresh_32 rfl ?_
        refine q_getLE dX12_readFresh_33 fl12_118 (kR15 hS178.1 ta0) c16 ?_
        refine tr_lstore_n dX12_readFresh_36 (by decide) (by decide) (by decide) ?_
        refine tr_aload_n dX12_readFresh_37 rfl ?_
        refine q_callVv hE (M' := mX12_goesOn) (as := []) dX12_readFresh_38 lk12_142 inX12_goesOn seX12_goesOn myX12_goesOn (by decide) ⟨by decide, by decide⟩ rfl (kR15 hS178.1 ta0) (Nat.le_of_ble_eq_true rfl) rfl rfl (by decide) (by decide) (k_X12_goesOn hS178.1 ta0) ?_
        rintro cn' K' N' I199 R200 L201 ⟨rfl, rfl, rfl, rfl, g202, p204, p205, p206, w207, -⟩
        have hS208 := hS178.tr g202 (by decide +kernel) (by decide +kernel)
        have c209 : I199 a0 13 = v186 := (g202.cell ta0 (by decide +kernel)).trans c187
        have c210 : I199 a0 14 = v188 := (g202.cell ta0 (by decide +kernel)).trans c189
        obtain ⟨v211, c212⟩ : ∃ v, I199 a0 9 = v := ⟨_, rfl⟩
        have b213 := iv15_9 hS208.1 ta0 c212
        rw [c184] at p204
        rw [c212] at p204
        rw [c184] at p205
        rw [c212] at p205
        obtain ⟨v214, c215⟩ : ∃ v, I199 a0 8 = v := ⟨_, rfl⟩
        have b216 := iv15_8 hS208.1 ta0 c215
        rw [c215] at p206
        rw [c182] at p206
        rw [c209] at p206
        rw [c187] at p206
        have ov217 := w207.over (by rw [c184]; omega)
        obtain ⟨v218, c219⟩ : ∃ v, I199 a0 9 = v := ⟨_, rfl⟩
        have b220 := iv15_9 hS208.1 ta0 c219
        obtain ⟨v221, c222⟩ : ∃ v, I199 a0 13 = v := ⟨_, rfl⟩
        obtain ⟨v223, c224⟩ : ∃ v, I199 a0 14 = v := ⟨_, rfl⟩
        (try rw [c219] at ov217)
        (try rw [c222] at ov217)
        (try rw [c224] at ov217)
        (try rw [c184] at ov217)
        (try rw [c187] at ov217)
        (try rw [c189] at ov217)
        refine tr_lload_n dX12_readFresh_41 rfl ?_
        obtain ⟨v225, c226⟩ : ∃ v, I199 a0 10 = v := ⟨_, rfl⟩
        have b227 := iv15_10 hS208.1 ta0 c226
        obtain ⟨v228, c229⟩ : ∃ v, I199 a0 11 = v := ⟨_, rfl⟩
        obtain ⟨y230, c231⟩ : ∃ v, L201 a0 15 = v := ⟨_, rfl⟩
        obtain ⟨v232, c233⟩ : ∃ v, I199 a0 12 = v := ⟨_, rfl⟩
        exact tr_lret hZ dX12_readFresh_42 rfl (by decide) (by decide) ⟨y15, rfl, rfl, rfl, rfl, rfl, hS208, (Or.inr (Or.inl ⟨(by first | done | omega), (by (try rw [c219]); first | done | omega), (by (try rw [c222]); first | done | omega), (by (try rw [c224]); first | done | omega), trivial⟩)), trivial⟩
      · skip
        refine tr_aload_n dX12_readFresh_27 rfl ?_
        refine q_iconst dX12_readFresh_28 (by decide) ?_
        intro v234 h235
        refine q_callVv hE (M' := mX12_flaw) (as := [_]) dX12_readFresh_29 lk12_145 inX12_flaw seX12_flaw myX12_flaw (by decide) ⟨by decide, by decide⟩ rfl (kR15 hS178.1 ta0) (Nat.le_of_ble_eq_true rfl) rfl rfl (by decide) (by decide) (k_X12_flaw hS178.1 ta0 (by omega)) ?_
        rintro cn' K' N' I236 R237 L238 ⟨rfl, rfl, rfl, rfl, rfl, g239, p241, p242, w243, -⟩
        have hS244 := hS178.tr g239 (by decide +kernel) (by decide +kernel)
        have c245 : I236 a0 10 = v8 := (g239.cell ta0 (by decide +kernel)).trans c179
        have c246 : I236 a0 11 = v12 := (g239.cell ta0 (by decide +kernel)).trans c180
        have c247 : I236 a0 12 = v18 := (g239.cell ta0 (by decide +kernel)).trans c181
        have c248 : I236 a0 8 = v21 := (g239.cell ta0 (by decide +kernel)).trans c182
        obtain ⟨v249, c250⟩ : ∃ v, I236 a0 9 = v := ⟨_, rfl⟩
        have b251 := iv15_9 hS244.1 ta0 c250
        rw [c250] at p241
        rw [c248] at p242
        rw [c182] at p242
        have ov252 := w243.over (by rw [c184]; omega)
        obtain ⟨v253, c254⟩ : ∃ v, I236 a0 9 = v := ⟨_, rfl⟩
        have b255 := iv15_9 hS244.1 ta0 c254
        obtain ⟨v256, c257⟩ : ∃ v, I236 a0 13 = v := ⟨_, rfl⟩
        obtain ⟨v258, c259⟩ : ∃ v, I236 a0 14 = v := ⟨_, rfl⟩
        (try rw [c254] at ov252)
        (try rw [c257] at ov252)
        (try rw [c259] at ov252)
        (try rw [c184] at ov252)
        (try rw [c187] at ov252)
        (try rw [c189] at ov252)
        refine tr_aload_n dX12_readFresh_32 rfl ?_
        refine q_getLE dX12_readFresh_33 fl12_118 (kR15 hS244.1 ta0) c16 ?_
        refine tr_lstore_n dX12_readFresh_36 (by decide) (by decide) (by decide) ?_
        refine tr_aload_n dX12_readFresh_37 rfl ?_
        refine q_callVv hE (M' := mX12_goesOn) (as := []) dX12_readFresh_38 lk12_142 inX12_goesOn seX12_goesOn myX12_goesOn (by decide) ⟨by decide, by decide⟩ rfl (kR15 hS244.1 ta0) (Nat.le_of_ble_eq_true rfl) rfl rfl (by decide) (by decide) (k_X12_goesOn hS244.1 ta0) ?_
        rintro cn' K' N' I260 R261 L262 ⟨rfl, rfl, rfl, rfl, g263, p265, p266, p267, w268, -⟩
        have hS269 := hS244.tr g263 (by decide +kernel) (by decide +kernel)
        have c270 : I260 a0 13 = v256 := (g263.cell ta0 (by decide +kernel)).trans c257
        have c271 : I260 a0 14 = v258 := (g263.cell ta0 (by decide +kernel)).trans c259
        obtain ⟨v272, c273⟩ : ∃ v, I260 a0 9 = v := ⟨_, rfl⟩
        have b274 := iv15_9 hS269.1 ta0 c273
        rw [c254] at p265
        rw [c273] at p265
        rw [c254] at p266
        rw [c273] at p266
        obtain ⟨v275, c276⟩ : ∃ v, I260 a0 8 = v := ⟨_, rfl⟩
        have b277 := iv15_8 hS269.1 ta0 c276
        rw [c276] at p267
        rw [c248] at p267
        rw [c270] at p267
        rw [c257] at p267
        have ov278 := w268.over (by rw [c254]; omega)
        obtain ⟨v279, c280⟩ : ∃ v, I260 a0 9 = v := ⟨_, rfl⟩
        have b281 := iv15_9 hS269.1 ta0 c280
        obtain ⟨v282, c283⟩ : ∃ v, I260 a0 13 = v := ⟨_, rfl⟩
        obtain ⟨v284, c285⟩ : ∃ v, I260 a0 14 = v := ⟨_, rfl⟩
        (try rw [c280] at ov278)
        (try rw [c283] at ov278)
        (try rw [c285] at ov278)
        (try rw [c254] at ov278)
        (try rw [c257] at ov278)
        (try rw [c259] at ov278)
        refine tr_lload_n dX12_readFresh_41 rfl ?_
        obtain ⟨v286, c287⟩ : ∃ v, I260 a0 10 = v := ⟨_, rfl⟩
        have b288 := iv15_10 hS269.1 ta0 c287
        obtain ⟨v289, c290⟩ : ∃ v, I260 a0 11 = v := ⟨_, rfl⟩
        obtain ⟨y291, c292⟩ : ∃ v, L262 a0 15 = v := ⟨_, rfl⟩
        obtain ⟨v293, c294⟩ : ∃ v, I260 a0 12 = v := ⟨_, rfl⟩
        exact tr_lret hZ dX12_readFresh_42 rfl (by decide) (by decide) ⟨y15, rfl, rfl, rfl, rfl, rfl, hS269, (Or.inr (Or.inl ⟨(by first | done | omega), (by (try rw [c280]); first | done | omega), (by (try rw [c283]); first | done | omega), (by (try rw [c285]); first | done | omega), trivial⟩)), trivial⟩
def wik_X12_names : List Nat := [903, 4799, 4863]
def wrk_X12_names : List Nat := []
def wlk_X12_names : List Nat := [4735]
set_option maxHeartbeats 4000000 in
theorem fk_X12_names {l : Launch} {T : Nat → Nat} {cn : Nat} {K N : Nat → Nat} {I0 : cz_I} {R0 : cz_R} {L0 : cz_L} (hW0 : Wf T cn K N I0 R0 0)  {a0 : Nat} (ta0 : T a0 = 15) {y1 : Int64} {x2 : Int32} {x3 : Int32} (pre0 : ∀ b1, R0 a0 4 = some b1 → (I0 b1 7).toInt ≤ 12) (nn4 : ∃ b, R0 a0 4 = some b) : ConE l mX12_names [.ref a0, .long y1, .int x2, .int x3] cn K N I0 R0 L0 (ca_v (fun cn' K' N' I' R' L' => cn = cn' ∧ K = K' ∧ N = N' ∧ R0 = R' ∧ St T cn K N 1 wik_X12_names wrk_X12_names I0 R0 I' R0 ∧ LgS T wlk_X12_names L0 L' ∧ (∀ b, R0 a0 4 = some b → NaW I0 R0 L0 b y1 x2 x3 I' L') ∧ True)) := by
  refine ConE.of (by decide +kernel) rfl (Nat.le_of_ble_eq_true rfl) rfl (fun X hX hZ hE => ?_)
  subst hX
  have hS0 : St T cn K N 0 wik_X12_names wrk_X12_names I0 R0 I0 R0 := St.rf0 hW0
  have hL0 : LgS T wlk_X12_names L0 L0 := LgS.rf0
  obtain ⟨a1, d2⟩ := nn4
  have ta1 : T a1 = 14 := hW0.rsN ta0 rfl d2
  obtain ⟨v3, c4⟩ : ∃ v, I0 a1 7 = v := ⟨_, rfl⟩
  have b5 := iv14_7 hS0.1 ta1 c4
  have p6 := pre0 _ d2
  rw [c4] at p6
  refine tr_aload_n dX12_names_0 rfl ?_
  refine tr_getR dX12_names_1 fl12_188 (kR15 hS0.1 ta0) d2 ?_
  obtain ⟨a7, d8, ta7⟩ := rf14_30 hW0 ta1
  refine tr_getR dX12_names_4 fl12_205 (kR14 hS0.1 ta1) d8 ?_
  refine tr_aload_n dX12_names_7 rfl ?_
  refine tr_getR dX12_names_8 fl12_188 (kR15 hS0.1 ta0) d2 ?_
  refine q_getI dX12_names_11 fl12_209 (kR14 hS0.1 ta1) c4 ?_
  refine tr_lload_n dX12_names_14 rfl ?_
  refine q_lastE dX12_names_15 (kR73 hS0.1 ta7) (ti_in (nR73 hS0.1 ta7) (by omega) (by omega)) hL0 ta7 (by rfl) ?_
  intro L9 hL10 e11 f12
  refine tr_aload_n dX12_names_16 rfl ?_
  refine tr_getR dX12_names_17 fl12_188 (kR15 hS0.1 ta0) d2 ?_
  obtain ⟨a13, d14, ta13⟩ := rf14_31 hW0 ta1
  refine tr_getR dX12_names_20 fl12_212 (kR14 hS0.1 ta1) d14 ?_
  refine tr_aload_n dX12_names_23 rfl ?_
  refine tr_getR dX12_names_24 fl12_188 (kR15 hS0.1 ta0) d2 ?_
  refine q_getI dX12_names_27 fl12_209 (kR14 hS0.1 ta1) c4 ?_
  refine tr_iload_n dX12_names_30 rfl ?_
  refine q_iast dX12_names_31 (kR74 hS0.1 ta13) (ti_in (nR74 hS0.1 ta13) (by omega) (by omega)) hS0 ta13 (iokF rfl) rfl (by rfl) ?_
  intro I15 hS16 e18 f17
  have c19 : I15 a1 7 = v3 := (f17 _ _ (fun q => by have z := ta1; rw [q.1, ta13] at z; exact absurd z (by decide))).trans c4
  refine tr_aload_n dX12_names_32 rfl ?_
  refine tr_getR dX12_names_33 fl12_188 (kR15 hS16.1 ta0) d2 ?_
  obtain ⟨a20, d21, ta20⟩ := rf14_32 hW0 ta1
  refine tr_getR dX12_names_36 fl12_215 (kR14 hS16.1 ta1) d21 ?_
  refine tr_aload_n dX12_names_39 rfl ?_
  refine tr_getR dX12_names_40 fl12_188 (kR15 hS16.1 ta0) d2 ?_
  refine q_getI dX12_names_43 fl12_209 (kR14 hS16.1 ta1) c19 ?_
  refine tr_iload dX12_names_46 rfl ?_
  refine q_iast dX12_names_48 (kR75 hS16.1 ta20) (ti_in (nR75 hS16.1 ta20) (by omega) (by omega)) hS16 ta20 (iokF rfl) rfl (by rfl) ?_
  intro I22 hS23 e25 f24
  have c26 : I22 a1 7 = v3 := (f24 _ _ (fun q => by have z := ta1; rw [q.1, ta20] at z; exact absurd z (by decide))).trans c19
  refine tr_aload_n dX12_names_49 rfl ?_
  refine tr_getR dX12_names_50 fl12_188 (kR15 hS23.1 ta0) d2 ?_
  refine tr_dup dX12_names_53 rfl ?_
  refine q_getI dX12_names_54 fl12_209 (kR14 hS23.1 ta1) c26 ?_
  refine q_iconst dX12_names_57 (by decide) ?_
  intro v27 h28
  refine q_iaddE dX12_names_58 (by intros; omega) ?_
  intro v29 h30
  refine q_putX dX12_names_59 fl12_209 (kR14 hS23.1 ta1) (Or.inl rfl) hS23 ta1 (by decide +kernel) (hS23.1.putN (d' := 1) ta0 d2 (Or.inl rfl) (by rw [c26]; omega) (by decide) (by show (0 : Int) ≤ v29.toInt ∧ v29.toInt ≤ (13 : Int); omega)) ?_
  intro I31 hS32 e33 f34
  exact tr_vret hZ dX12_names_62 rfl (by decide) (by decide) ⟨rfl, rfl, rfl, rfl, rfl, hS32, hL10, (fun b hb => by obtain rfl := Option.some.inj (d2.symm.trans hb); exact (fun t u w ht hu hw k => by
      obtain rfl := Option.some.inj (d8.symm.trans ht)
      obtain rfl := Option.some.inj (d14.symm.trans hu)
      obtain rfl := Option.some.inj (d21.symm.trans hw)
      have en := ti_nat (i := v3) (by omega)
      rw [c4]
      refine ⟨fun hk => ?_, fun hk => ?_⟩
      · obtain rfl : k = v3.toNatClampNeg := by omega
        exact ⟨e11, (f34 _ _ (fun q => by have z := ta13; rw [q.1, ta1] at z; exact absurd z (by decide))).trans ((f24 _ _ (fun q => by have z := ta13; rw [q.1, ta20] at z; exact absurd z (by decide))).trans e18), (f34 _ _ (fun q => by have z := ta20; rw [q.1, ta1] at z; exact absurd z (by decide))).trans e25⟩
      · have hk2 : ¬ k = v3.toNatClampNeg := by omega
        exact ⟨f12 _ _ (fun q => hk2 q.2), (f34 _ _ (fun q => by have z := ta13; rw [q.1, ta1] at z; exact absurd z (by decide))).trans ((f24 _ _ (fun q => by have z := ta13; rw [q.1, ta20] at z; exact absurd z (by decide))).trans (f17 _ _ (fun q => hk2 q.2))), (f34 _ _ (fun q => by have z := ta20; rw [q.1, ta1] at z; exact absurd z (by decide))).trans ((f24 _ _ (fun q => hk2 q.2)).trans (f17 _ _ (fun q => by have z := ta20; rw [q.1, ta13] at z; exact absurd z (by decide))))⟩)), trivial⟩
def wik_X12_readAlp : List Nat := [896, 897, 968, 969, 970, 971, 972, 973, 974, 3455]
def wrk_X12_readAlp : List Nat := []
def wlk_X12_readAlp : List Nat := [975]
set_option maxHeartbeats 4000000 in
theorem fk_X12_readAlp {l : Launch} {T : Nat → Nat} {cn : Nat} {K N : Nat → Nat} {I0 : cz_I} {R0 : cz_R} {L0 : cz_L} (hW0 : Wf T cn K N I0 R0 0) (gB : cz_B) (gs : Int) (gQ : Nat → Int) {a0 : Nat} (ta0 : T a0 = 15) (hT : ∀ t, R0 a0 5 = some t → Tx I0 t gB) (hN : ∀ b, R0 a0 4 = some b → NmM I0 R0 L0 b gQ) (pre0 : (I0 a0 9).toInt = (tkM gB gs)) (pre1 : (I0 a0 9).toInt ≤ 4) (pre2 : (I0 a0 10).toInt = (tkS gB gs)) (pre3 : (I0 a0 11).toInt = (tkG gB gs)) (pre4 : (AtW ((tkK gB gs)) ((L0 a0 15).toInt) ((tkW gB gs)))) (pre5 : (AtV ((tkK gB gs)) ((I0 a0 12).toInt) ((tkV gB gs)))) (pre6 : (AtN ((tkK gB gs)) ((I0 a0 8).toInt) ((tkN gB gs)))) (pre7 : (I0 a0 7).toInt = (gB.2)) (pre8 : ∀ b1, R0 a0 4 = some b1 → (I0 b1 0).toInt = (gQ 0)) (pre9 : ∀ b1, R0 a0 4 = some b1 → (I0 b1 1).toInt = (gQ 1)) (pre10 : ∀ b1, R0 a0 4 = some b1 → (I0 b1 2).toInt = (gQ 2)) (pre11 : ∀ b1, R0 a0 4 = some b1 → (I0 b1 3).toInt = (gQ 3)) (pre12 : ∀ b1, R0 a0 4 = some b1 → (I0 b1 4).toInt = (gQ 4)) (pre13 : ∀ b1, R0 a0 4 = some b1 → (I0 b1 5).toInt = (gQ 5)) (pre14 : ∀ b1, R0 a0 4 = some b1 → (I0 b1 6).toInt = (gQ 6)) (pre15 : ∀ b1, R0 a0 4 = some b1 → (I0 b1 9).toInt = (gQ 8)) (pre16 : (Q7M ((gQ 0)) ((gQ 7)))) (pre17 : (tkK gB gs) = 1) (pre18 : (srt gB gs) = 10) (nn4 : ∃ b, R0 a0 4 = some b) : ConE l mX12_readAlp [.ref a0] cn K N I0 R0 L0 (ca_v (fun cn' K' N' I' R' L' => cn = cn' ∧ K = K' ∧ N = N' ∧ R0 = R' ∧ St T cn K N 0 wik_X12_readAlp wrk_X12_readAlp I0 R0 I' R0 ∧ ((((lnF gB gQ gs) = 0) ∧ (∀ b1, R0 a0 4 = some b1 → (I' b1 0).toInt = (lnQ gB gQ gs 0)) ∧ (∀ b1, R0 a0 4 = some b1 → (I' b1 1).toInt = (lnQ gB gQ gs 1)) ∧ (∀ b1, R0 a0 4 = some b1 → (I' b1 2).toInt = (lnQ gB gQ gs 2)) ∧ (∀ b1, R0 a0 4 = some b1 → (I' b1 3).toInt = (lnQ gB gQ gs 3)) ∧ (∀ b1, R0 a0 4 = some b1 → (I' b1 4).toInt = (lnQ gB gQ gs 4)) ∧ (∀ b1, R0 a0 4 = some b1 → (I' b1 5).toInt = (lnQ gB gQ gs 5)) ∧ (∀ b1, R0 a0 4 = some b1 → (I' b1 6).toInt = (lnQ gB gQ gs 6)) ∧ (∀ b1, R0 a0 4 = some b1 → (I' b1 9).toInt = (lnQ gB gQ gs 8)) ∧ ((I' a0 13).toInt = (I0 a0 13).toInt) ∧ ((I' a0 9).toInt = (tkM gB (lnS gB gQ gs))) ∧ ((I' a0 9).toInt ≤ 4) ∧ ((I' a0 10).toInt = (tkS gB (lnS gB gQ gs))) ∧ ((I' a0 11).toInt = (tkG gB (lnS gB gQ gs))) ∧ ((AtW ((tkK gB (lnS gB gQ gs))) ((L' a0 15).toInt) ((tkW gB (lnS gB gQ gs))))) ∧ ((AtV ((tkK gB (lnS gB gQ gs))) ((I' a0 12).toInt) ((tkV gB (lnS gB gQ gs))))) ∧ ((AtN ((tkK gB (lnS gB gQ gs))) ((I' a0 8).toInt) ((tkN gB (lnS gB gQ gs))))) ∧ LgS T wlk_X12_readAlp L0 L' ∧ (∀ b, R0 a0 4 = some b → NmM I' R0 L' b (lnQ gB gQ gs)) ∧ True) ∨ (((lnF gB gQ gs) ≠ 0) ∧ ((I' a0 9).toInt = 5) ∧ ((I' a0 13).toInt = (lnF gB gQ gs)) ∧ ((I' a0 14).toInt = (lnP gB gQ gs)) ∧ True)) ∧ True)) := by
  refine ConE.of (by decide +kernel) rfl (Nat.le_of_ble_eq_true rfl) rfl (fun X hX hZ hE => ?_)
  subst hX
  have hS0 : St T cn K N 0 wik_X12_readAlp wrk_X12_readAlp I0 R0 I0 R0 := St.rf0 hW0
  have hL0 : LgS T wlk_X12_readAlp L0 L0 := LgS.rf0
  obtain ⟨a1, d2⟩ := nn4
  have ta1 : T a1 = 14 := hW0.rsN ta0 rfl d2
  obtain ⟨v3, c4⟩ : ∃ v, I0 a0 9 = v := ⟨_, rfl⟩
  have b5 := iv15_9 hS0.1 ta0 c4
  have p6 := pre0
  rw [c4] at p6
  have p7 := pre1
  rw [c4] at p7
  obtain ⟨v8, c9⟩ : ∃ v, I0 a0 10 = v := ⟨_, rfl⟩
  have b10 := iv15_10 hS0.1 ta0 c9
  have p11 := pre2
  rw [c9] at p11
  obtain ⟨v12, c13⟩ : ∃ v, I0 a0 11 = v := ⟨_, rfl⟩
  have p14 := pre3
  rw [c13] at p14
  obtain ⟨y15, c16⟩ : ∃ v, L0 a0 15 = v := ⟨_, rfl⟩
  have p17 := pre4
  rw [c16] at p17
  obtain ⟨v18, c19⟩ : ∃ v, I0 a0 12 = v := ⟨_, rfl⟩
  have p20 := pre5
  rw [c19] at p20
  obtain ⟨v21, c22⟩ : ∃ v, I0 a0 8 = v := ⟨_, rfl⟩
  have b23 := iv15_8 hS0.1 ta0 c22
  have p24 := pre6
  rw [c22] at p24
  obtain ⟨v25, c26⟩ : ∃ v, I0 a0 7 = v := ⟨_, rfl⟩
  have b27 := iv15_7 hW0 ta0 c26
  have p28 := pre7
  rw [c26] at p28
  obtain ⟨v29, c30⟩ : ∃ v, I0 a1 0 = v := ⟨_, rfl⟩
  have b31 := iv14_0 hS0.1 ta1 c30
  have p32 := pre8 _ d2
  rw [c30] at p32
  obtain ⟨v33, c34⟩ : ∃ v, I0 a1 1 = v := ⟨_, rfl⟩
  have b35 := iv14_1 hS0.1 ta1 c34
  have p36 := pre9 _ d2
  rw [c34] at p36
  obtain ⟨v37, c38⟩ : ∃ v, I0 a1 2 = v := ⟨_, rfl⟩
  have b39 := iv14_2 hW0 ta1 c38
  have p40 := pre10 _ d2
  rw [c38] at p40
  obtain ⟨v41, c42⟩ : ∃ v, I0 a1 3 = v := ⟨_, rfl⟩
  have b43 := iv14_3 hW0 ta1 c42
  have p44 := pre11 _ d2
  rw [c42] at p44
  obtain ⟨v45, c46⟩ : ∃ v, I0 a1 4 = v := ⟨_, rfl⟩
  have b47 := iv14_4 hW0 ta1 c46
  have p48 := pre12 _ d2
  rw [c46] at p48
  obtain ⟨v49, c50⟩ : ∃ v, I0 a1 5 = v := ⟨_, rfl⟩
  have b51 := iv14_5 hW0 ta1 c50
  have p52 := pre13 _ d2
  rw [c50] at p52
  obtain ⟨v53, c54⟩ : ∃ v, I0 a1 6 = v := ⟨_, rfl⟩
  have b55 := iv14_6 hW0 ta1 c54
  have p56 := pre14 _ d2
  rw [c54] at p56
  obtain ⟨v57, c58⟩ : ∃ v, I0 a1 9 = v := ⟨_, rfl⟩
  have b59 := iv14_9 hW0 ta1 c58
  have p60 := pre15 _ d2
  rw [c58] at p60
  have p61 := pre16
  have p62 := pre17
  have p63 := pre18
  obtain ⟨v64, c65⟩ : ∃ v, I0 a0 13 = v := ⟨_, rfl⟩
  have hM0 := hN _ d2
  have hF := lnF_ch gB gQ gs
  have hP := lnP_ch gB gQ gs
  replace hF := hF.neg (by omega)
  replace hP := hP.neg (by omega)
  refine tr_aload_n dX12_readAlp_0 rfl ?_
  refine tr_getR dX12_readAlp_1 fl12_188 (kR15 hS0.1 ta0) d2 ?_
  refine q_getI dX12_readAlp_4 fl12_192 (kR14 hS0.1 ta1) c30 ?_
  refine q_if_le 15 dX12_readAlp_7 (by decide) (fun h66 => ?_) (fun h66 => ?_)
  · skip
    have p67 := p61
    unfold Q7M at p67
    replace hF := hF.neg (by omega)
    replace hP := hP.neg (by omega)
    replace hF := hF.neg (by omega)
    replace hP := hP.neg (by omega)
    replace hF := hF.neg (by omega)
    replace hP := hP.neg (by omega)
    refine tr_aload_n dX12_readAlp_15 rfl ?_
    have p68 := p24 (by omega)
    refine q_callVv hE (M' := mX12_goesOn) (as := []) dX12_readAlp_16 lk12_142 inX12_goesOn seX12_goesOn myX12_goesOn (by decide) ⟨by decide, by decide⟩ rfl (kR15 hS0.1 ta0) (Nat.le_of_ble_eq_true rfl) rfl rfl (by decide) (by decide) (fk_X12_goesOn hS0.1 (gB) ((tkN gB gs)) ta0 (TxA.kp hT hS0 ta0 rfl rfl rfl (by decide +kernel) (by decide +kernel)) (by (try rw [c22]); first | done | omega) (by (try rw [c26]); first | done | omega) (by (try rw [c4]); first | done | omega)) ?_
    rintro cn' K' N' I69 R70 L71 ⟨rfl, rfl, rfl, rfl, g72, gl73, p75, p76, p77, p78, p79, p80, p81, -⟩
    have hM82 : NmM I69 R0 L0 a1 gQ := NmM.kpS hM0 g72 hS0.1 ta1 (by decide +kernel) (by decide +kernel)
    have hS83 := hS0.tr g72 (by decide +kernel) (by decide +kernel)
    have c84 : I69 a1 0 = v29 := (g72.cell ta1 (by decide +kernel)).trans c30
    have c85 : I69 a1 1 = v33 := (g72.cell ta1 (by decide +kernel)).trans c34
    have c86 : I69 a0 13 = v64 := (g72.cell ta0 (by decide +kernel)).trans c65
    have hL87 := hL0.tr gl73 (by decide +kernel)
    have hM88 : NmM I69 R0 L71 a1 gQ := NmM.kpL hM82 gl73 hS83.1 ta1 (by decide +kernel)
    obtain ⟨v89, c90⟩ : ∃ v, I69 a0 9 = v := ⟨_, rfl⟩
    have b91 := iv15_9 hS83.1 ta0 c90
    rw [c90] at p75
    rw [c90] at p76
    obtain ⟨v92, c93⟩ : ∃ v, I69 a0 10 = v := ⟨_, rfl⟩
    have b94 := iv15_10 hS83.1 ta0 c93
    rw [c93] at p77
    obtain ⟨v95, c96⟩ : ∃ v, I69 a0 11 = v := ⟨_, rfl⟩
    rw [c96] at p78
    obtain ⟨y97, c98⟩ : ∃ v, L71 a0 15 = v := ⟨_, rfl⟩
    rw [c98] at p79
    obtain ⟨v99, c100⟩ : ∃ v, I69 a0 12 = v := ⟨_, rfl⟩
    rw [c100] at p80
    obtain ⟨v101, c102⟩ : ∃ v, I69 a0 8 = v := ⟨_, rfl⟩
    have b103 := iv15_8 hS83.1 ta0 c102
    rw [c102] at p81
    obtain ⟨w104, w105, w106, w107, w108, w109, w110, w111, w112, w113, w114, w115⟩ := lnl_10 (B := gB) (Q := gQ) (s := gs) (by omega)
    replace hF := hF.to w104 (alF_ch gB gQ (tkN gB gs))
    replace hP := hP.to w105 (alP_ch gB gQ (tkN gB gs))
    refine tr_aload_n dX12_readAlp_19 rfl ?_
    refine tr_ldcS dX12_readAlp_20 ld12_248 ?_
    refine q_bipush dX12_readAlp_22 (by decide +kernel) ?_
    intro v116 h117
    refine q_sipush dX12_readAlp_24 (by decide +kernel) ?_
    intro v118 h119
    refine q_callVi hE (M' := mX12_readPart) (as := [_, _, _]) dX12_readAlp_27 lk12_249 inX12_readPart seX12_readPart myX12_readPart (by decide) ⟨by decide, by decide⟩ rfl (kR15 hS83.1 ta0) (Nat.le_of_ble_eq_true rfl) rfl rfl (by decide) (by decide) (fk_X12_readPart hS83.1 (gB) ((tkN gB gs)) ta0 (by decide) (TxA.kp hT hS83 ta0 rfl rfl rfl (by decide +kernel) (by decide +kernel)) (by (try rw [c90]); first | done | omega) (by (try rw [c90]); first | done | omega) (by (try rw [c93]); first | done | omega) (by (try rw [c96]); first | done | omega) (by (try rw [c98]); first | done | assumption) (by (try rw [c100]); first | done | assumption) (by (try rw [c102]); first | done | assumption) (by (try rw [((hS83.cell ta0 (by decide +kernel)).trans c26)]); first | done | omega)) ?_
    rintro v125 cn' K' N' I120 R121 L122 ⟨rfl, rfl, rfl, rfl, g123, dj126, -⟩
    (try rw [pk_18] at dj126)
    have hM127 : NmM I120 R0 L71 a1 gQ := NmM.kpS hM88 g123 hS83.1 ta1 (by decide +kernel) (by decide +kernel)
    have hS128 := hS83.tr g123 (by decide +kernel) (by decide +kernel)
    have c129 : I120 a1 0 = v29 := (g123.cell ta1 (by decide +kernel)).trans c84
    have c130 : I120 a1 1 = v33 := (g123.cell ta1 (by decide +kernel)).trans c85
    rcases dj126 with ⟨p131, p132, p133, p134, p135, p136, p137, p138, p139, p140, p141, p142, p143, p144, gl145, -⟩ | ⟨p146, p147, p148, p149, p150, -⟩ | ⟨p151, p152, p153, p154, p155, p156, p157, -⟩ | ⟨p158, p159, p160, p161, p162, p163, p164, p165, -⟩
    · skip
      have hL166 := hL87.tr gl145 (by decide +kernel)
      have hM167 : NmM I120 R0 L122 a1 gQ := NmM.kpL hM127 gl145 hS128.1 ta1 (by decide +kernel)
      obtain ⟨v168, c169⟩ : ∃ v, I120 a0 13 = v := ⟨_, rfl⟩
      rw [c169] at p137
      rw [c86] at p137
      obtain ⟨v170, c171⟩ : ∃ v, I120 a0 9 = v := ⟨_, rfl⟩
      have b172 := iv15_9 hS128.1 ta0 c171
      rw [c171] at p138
      rw [c171] at p139
      obtain ⟨v173, c174⟩ : ∃ v, I120 a0 10 = v := ⟨_, rfl⟩
      have b175 := iv15_10 hS128.1 ta0 c174
      rw [c174] at p140
      obtain ⟨v176, c177⟩ : ∃ v, I120 a0 11 = v := ⟨_, rfl⟩
      rw [c177] at p141
      obtain ⟨y178, c179⟩ : ∃ v, L122 a0 15 = v := ⟨_, rfl⟩
      rw [c179] at p142
      obtain ⟨v180, c181⟩ : ∃ v, I120 a0 12 = v := ⟨_, rfl⟩
      rw [c181] at p143
      obtain ⟨v182, c183⟩ : ∃ v, I120 a0 8 = v := ⟨_, rfl⟩
      have b184 := iv15_8 hS128.1 ta0 c183
      rw [c183] at p144
      replace hF := hF.neg (by omega)
      replace hP := hP.neg (by omega)
      replace hF := hF.neg (by omega)
      replace hP := hP.neg (by omega)
      replace hF := hF.neg (by omega)
      replace hP := hP.neg (by omega)
      refine tr_istore_n dX12_readAlp_30 (by decide) (by decide) ?_
      refine tr_aload_n dX12_readAlp_31 rfl ?_
      refine tr_ldcS dX12_readAlp_32 ld12_253 ?_
      refine q_iconst dX12_readAlp_34 (by decide) ?_
      intro v185 h186
      refine q_iconst dX12_readAlp_35 (by decide) ?_
      intro v187 h188
      refine q_callVi hE (M' := mX12_readPart) (as := [_, _, _]) dX12_readAlp_36 lk12_249 inX12_readPart seX12_readPart myX12_readPart (by decide) ⟨by decide, by decide⟩ rfl (kR15 hS128.1 ta0) (Nat.le_of_ble_eq_true rfl) rfl rfl (by decide) (by decide) (fk_X12_readPart hS128.1 (gB) ((tkN gB (tkN gB (tkN gB gs)))) ta0 (by decide) (TxA.kp hT hS128 ta0 rfl rfl rfl (by decide +kernel) (by decide +kernel)) (by (try rw [c171]); first | done | omega) (by (try rw [c171]); first | done | omega) (by (try rw [c174]); first | done | omega) (by (try rw [c177]); first | done | omega) (by (try rw [c179]); first | done | assumption) (by (try rw [c181]); first | done | assumption) (by (try rw [c183]); first | done | assumption) (by (try rw [((hS128.cell ta0 (by decide +kernel)).trans c26)]); first | done | omega)) ?_
      rintro v194 cn' K' N' I189 R190 L191 ⟨rfl, rfl, rfl, rfl, g192, dj195, -⟩
      (try rw [pk_16] at dj195)
      have hM196 : NmM I189 R0 L122 a1 gQ := NmM.kpS hM167 g192 hS128.1 ta1 (by decide +kernel) (by decide +kernel)
      have hS197 := hS128.tr g192 (by decide +kernel) (by decide +kernel)
      have c198 : I189 a1 0 = v29 := (g192.cell ta1 (by decide +kernel)).trans c129
      have c199 : I189 a1 1 = v33 := (g192.cell ta1 (by decide +kernel)).trans c130
      rcases dj195 with ⟨p200, p201, p202, p203, p204, p205, p206, p207, p208, p209, p210, p211, p212, p213, gl214, -⟩ | ⟨p215, p216, p217, p218, p219, -⟩ | ⟨p220, p221, p222, p223, p224, p225, p226, -⟩ | ⟨p227, p228, p229, p230, p231, p232, p233, p234, -⟩
      · skip
        have hL235 := hL166.tr gl214 (by decide +kernel)
        have hM236 : NmM I189 R0 L191 a1 gQ := NmM.kpL hM196 gl214 hS197.1 ta1 (by decide +kernel)
        obtain ⟨v237, c238⟩ : ∃ v, I189 a0 13 = v := ⟨_, rfl⟩
        rw [c238] at p206
        rw [c169] at p206
        obtain ⟨v239, c240⟩ : ∃ v, I189 a0 9 = v := ⟨_, rfl⟩
        have b241 := iv15_9 hS197.1 ta0 c240
        rw [c240] at p207
        rw [c240] at p208
        obtain ⟨v242, c243⟩ : ∃ v, I189 a0 10 = v := ⟨_, rfl⟩
        have b244 := iv15_10 hS197.1 ta0 c243
        rw [c243] at p209
        obtain ⟨v245, c246⟩ : ∃ v, I189 a0 11 = v := ⟨_, rfl⟩
        rw [c246] at p210
        obtain ⟨y247, c248⟩ : ∃ v, L191 a0 15 = v := ⟨_, rfl⟩
        rw [c248] at p211
        obtain ⟨v249, c250⟩ : ∃ v, I189 a0 12 = v := ⟨_, rfl⟩
        rw [c250] at p212
        obtain ⟨v251, c252⟩ : ∃ v, I189 a0 8 = v := ⟨_, rfl⟩
        have b253 := iv15_8 hS197.1 ta0 c252
        rw [c252] at p213
        replace hF := hF.neg (by omega)
        replace hP := hP.neg (by omega)
        replace hF := hF.neg (by omega)
        replace hP := hP.neg (by omega)
        replace hF := hF.neg (by omega)
        replace hP := hP.neg (by omega)
        refine tr_istore_n dX12_readAlp_39 (by decide) (by decide) ?_
        refine tr_aload_n dX12_readAlp_40 rfl ?_
        refine tr_ldcS dX12_readAlp_41 ld12_255 ?_
        refine q_callVv hE (M' := mX12_needs) (as := [_]) dX12_readAlp_43 lk12_157 inX12_needs seX12_needs myX12_needs (by decide) ⟨by decide, by decide⟩ rfl (kR15 hS197.1 ta0) (Nat.le_of_ble_eq_true rfl) rfl rfl (by decide) (by decide) (fk_X12_needs hS197.1 (gB) ((tkN gB (tkN gB (tkN gB (tkN gB (tkN gB gs)))))) ta0 (by decide) (TxA.kp hT hS197 ta0 rfl rfl rfl (by decide +kernel) (by decide +kernel)) (by (try rw [c240]); first | done | omega) (by (try rw [c240]); first | done | omega) (by (try rw [c243]); first | done | omega) (by (try rw [c246]); first | done | omega) (by (try rw [c248]); first | done | assumption) (by (try rw [c250]); first | done | assumption) (by (try rw [c252]); first | done | assumption) (by (try rw [((hS197.cell ta0 (by decide +kernel)).trans c26)]); first | done | omega)) ?_
        rintro cn' K' N' I254 R255 L256 ⟨rfl, rfl, rfl, rfl, g257, dj260, -⟩
        (try rw [pk_20] at dj260)
        have hM261 : NmM I254 R0 L191 a1 gQ := NmM.kpS hM236 g257 hS197.1 ta1 (by decide +kernel) (by decide +kernel)
        have hS262 := hS197.tr g257 (by decide +kernel) (by decide +kernel)
        have c263 : I254 a1 0 = v29 := (g257.cell ta1 (by decide +kernel)).trans c198
        have c264 : I254 a1 1 = v33 := (g257.cell ta1 (by decide +kernel)).trans c199
        rcases dj260 with ⟨p265, p266, p267, p268, p269, p270, p271, p272, p273, p274, gl275, -⟩ | ⟨p276, p277, p278, p279, -⟩
        · skip
          have hL280 := hL235.tr gl275 (by decide +kernel)
          have hM281 : NmM I254 R0 L256 a1 gQ := NmM.kpL hM261 gl275 hS262.1 ta1 (by decide +kernel)
          obtain ⟨v282, c283⟩ : ∃ v, I254 a0 13 = v := ⟨_, rfl⟩
          rw [c283] at p267
          rw [c238] at p267
          obtain ⟨v284, c285⟩ : ∃ v, I254 a0 9 = v := ⟨_, rfl⟩
          have b286 := iv15_9 hS262.1 ta0 c285
          rw [c285] at p268
          rw [c285] at p269
          obtain ⟨v287, c288⟩ : ∃ v, I254 a0 10 = v := ⟨_, rfl⟩
          have b289 := iv15_10 hS262.1 ta0 c288
          rw [c288] at p270
          obtain ⟨v290, c291⟩ : ∃ v, I254 a0 11 = v := ⟨_, rfl⟩
          rw [c291] at p271
          obtain ⟨y292, c293⟩ : ∃ v, L256 a0 15 = v := ⟨_, rfl⟩
          rw [c293] at p272
          obtain ⟨v294, c295⟩ : ∃ v, I254 a0 12 = v := ⟨_, rfl⟩
          rw [c295] at p273
          obtain ⟨v296, c297⟩ : ∃ v, I254 a0 8 = v := ⟨_, rfl⟩
          have b298 := iv15_8 hS262.1 ta0 c297
          rw [c297] at p274
          replace hF := hF.neg (by omega)
          replace hP := hP.neg (by omega)
          refine q_iconst dX12_readAlp_46 (by decide) ?_
          intro v299 h300
          refine tr_istore_n dX12_readAlp_47 (by decide) (by decide) ?_
          refine tr_iload_n dX12_readAlp_48 rfl ?_
          refine q_iconst dX12_readAlp_49 (by decide) ?_
          intro v301 h302
          refine q_icmp_ge 85 dX12_readAlp_50 (by decide) (fun h303 => ?_) (fun h303 => ?_)
          · skip
            exfalso; omega
          · skip
            refine tr_iload_n dX12_readAlp_53 rfl ?_
            refine q_if_le 63 dX12_readAlp_54 (by decide) (fun h304 => ?_) (fun h304 => ?_)
            · skip
              refine tr_aload_n dX12_readAlp_63 rfl ?_
              refine tr_getR dX12_readAlp_64 fl12_188 (kR15 hS262.1 ta0) d2 ?_
              obtain ⟨a305, d306, ta305⟩ := rf14_10 hW0 ta1
              refine tr_getR dX12_readAlp_67 fl12_260 (kR14 hS262.1 ta1) d306 ?_
              refine tr_iload_n dX12_readAlp_70 rfl ?_
              refine tr_aload_n dX12_readAlp_71 rfl ?_
              refine q_iconst dX12_readAlp_72 (by decide) ?_
              intro v307 h308
              refine q_bipush dX12_readAlp_73 (by decide +kernel) ?_
              intro v309 h310
              refine q_callVi hE (M' := mX12_readWhole) (as := [_, _]) dX12_readAlp_75 lk12_161 inX12_readWhole seX12_readWhole myX12_readWhole (by decide) ⟨by decide, by decide⟩ rfl (kR15 hS262.1 ta0) (Nat.le_of_ble_eq_true rfl) rfl rfl (by decide) (by decide) (fk_X12_readWhole hS262.1 (gB) ((tkN gB (tkN gB (tkN gB (tkN gB (tkN gB (tkN gB gs))))))) ta0 (TxA.kp hT hS262 ta0 rfl rfl rfl (by decide +kernel) (by decide +kernel)) (by (try rw [c285]); first | done | omega) (by (try rw [c285]); first | done | omega) (by (try rw [c288]); first | done | omega) (by (try rw [c291]); first | done | omega) (by (try rw [c293]); first | done | assumption) (by (try rw [c295]); first | done | assumption) (by (try rw [c297]); first | done | assumption) (by (try rw [((hS262.cell ta0 (by decide +kernel)).trans c26)]); first | done | omega)) ?_
              rintro v316 cn' K' N' I311 R312 L313 ⟨rfl, rfl, rfl, rfl, g314, dj317, -⟩
              have hM318 : NmM I311 R0 L256 a1 gQ := NmM.kpS hM281 g314 hS262.1 ta1 (by decide +kernel) (by decide +kernel)
              have hS319 := hS262.tr g314 (by decide +kernel) (by decide +kernel)
              have c320 : I311 a1 0 = v29 := (g314.cell ta1 (by decide +kernel)).trans c263
              have c321 : I311 a1 1 = v33 := (g314.cell ta1 (by decide +kernel)).trans c264
              rcases dj317 with ⟨p322, p323, p324, p325, p326, p327, p328, p329, p330, p331, p332, p333, gl334, -⟩ | ⟨p335, p336, p337, p338, p339, -⟩ | ⟨p340, p341, p342, p343, p344, p345, -⟩
              · skip
                have hL346 := hL280.tr gl334 (by decide +kernel)
                have hM347 : NmM I311 R0 L313 a1 gQ := NmM.kpL hM318 gl334 hS319.1 ta1 (by decide +kernel)
                obtain ⟨v348, c349⟩ : ∃ v, I311 a0 13 = v := ⟨_, rfl⟩
                rw [c349] at p326
                rw [c283] at p326
                obtain ⟨v350, c351⟩ : ∃ v, I311 a0 9 = v := ⟨_, rfl⟩
                have b352 := iv15_9 hS319.1 ta0 c351
                rw [c351] at p327
                rw [c351] at p328
                obtain ⟨v353, c354⟩ : ∃ v, I311 a0 10 = v := ⟨_, rfl⟩
                have b355 := iv15_10 hS319.1 ta0 c354
                rw [c354] at p329
                obtain ⟨v356, c357⟩ : ∃ v, I311 a0 11 = v := ⟨_, rfl⟩
                rw [c357] at p330
                obtain ⟨y358, c359⟩ : ∃ v, L313 a0 15 = v := ⟨_, rfl⟩
                rw [c359] at p331
                obtain ⟨v360, c361⟩ : ∃ v, I311 a0 12 = v := ⟨_, rfl⟩
                rw [c361] at p332
                obtain ⟨v362, c363⟩ : ∃ v, I311 a0 8 = v := ⟨_, rfl⟩
                have b364 := iv15_8 hS319.1 ta0 c363
                rw [c363] at p333
                replace hF := hF.neg (by omega)
                replace hP := hP.neg (by omega)
                replace hF := hF.neg (by omega)
                replace hP := hP.neg (by omega)
                refine q_iast dX12_readAlp_78 (kR53 hS319.1 ta305) (ti_in (nR53 hS319.1 ta305) (by omega) (by omega)) hS319 ta305 (iokF rfl) rfl (by rfl) ?_
                intro I365 hS366 e368 f367
                have c369 : I365 a1 0 = v29 := (f367 _ _ (fun q => by have z := ta1; rw [q.1, ta305] at z; exact absurd z (by decide))).trans c320
                have c370 : I365 a1 1 = v33 := (f367 _ _ (fun q => by have z := ta1; rw [q.1, ta305] at z; exact absurd z (by decide))).trans c321
                have c371 : I365 a0 13 = v348 := (f367 _ _ (fun q => by have z := ta0; rw [q.1, ta305] at z; exact absurd z (by decide))).trans c349
                have c372 : I365 a0 9 = v350 := (f367 _ _ (fun q => by have z := ta0; rw [q.1, ta305] at z; exact absurd z (by decide))).trans c351
                have c373 : I365 a0 10 = v353 := (f367 _ _ (fun q => by have z := ta0; rw [q.1, ta305] at z; exact absurd z (by decide))).trans c354
                have c374 : I365 a0 11 = v356 := (f367 _ _ (fun q => by have z := ta0; rw [q.1, ta305] at z; exact absurd z (by decide))).trans c357
                have c375 : I365 a0 12 = v360 := (f367 _ _ (fun q => by have z := ta0; rw [q.1, ta305] at z; exact absurd z (by decide))).trans c361
                have c376 : I365 a0 8 = v362 := (f367 _ _ (fun q => by have z := ta0; rw [q.1, ta305] at z; exact absurd z (by decide))).trans c363
                have hM377 : NmM I365 R0 L313 a1 gQ := NmM.kp1 hM347 f367 ta305 rfl rfl hS319.1 ta1
                refine q_iincE dX12_readAlp_79 rfl (by decide) (by decide) (by intros; omega) ?_
                intro v378 h379
                refine tr_goto 48 dX12_readAlp_82 (by decide) ?_
                refine tr_iload_n dX12_readAlp_48 rfl ?_
                refine q_iconst dX12_readAlp_49 (by decide) ?_
                intro v380 h381
                refine q_icmp_ge 85 dX12_readAlp_50 (by decide) (fun h382 => ?_) (fun h382 => ?_)
                · skip
                  exfalso; omega
                · skip
                  refine tr_iload_n dX12_readAlp_53 rfl ?_
                  refine q_if_le 63 dX12_readAlp_54 (by decide) (fun h383 => ?_) (fun h383 => ?_)
                  · skip
                    exfalso; omega
                  · skip
                    refine tr_aload_n dX12_readAlp_57 rfl ?_
                    refine q_bipush dX12_readAlp_58 (by decide +kernel) ?_
                    intro v384 h385
                    refine q_callVv hE (M' := mX12_needsSign) (as := [_]) dX12_readAlp_60 lk12_257 inX12_needsSign seX12_needsSign myX12_needsSign (by decide) ⟨by decide, by decide⟩ rfl (kR15 hS366.1 ta0) (Nat.le_of_ble_eq_true rfl) rfl rfl (by decide) (by decide) (fk_X12_needsSign hS366.1 (gB) ((tkN gB (tkN gB (tkN gB (tkN gB (tkN gB (tkN gB (tkN gB gs)))))))) ta0 (TxA.kp hT hS366 ta0 rfl rfl rfl (by decide +kernel) (by decide +kernel)) (by (try rw [c372]); first | done | omega) (by (try rw [c372]); first | done | omega) (by (try rw [c373]); first | done | omega) (by (try rw [c374]); first | done | omega) (by (try rw [c359]); first | done | assumption) (by (try rw [c375]); first | done | assumption) (by (try rw [c376]); first | done | assumption) (by (try rw [((hS366.cell ta0 (by decide +kernel)).trans c26)]); first | done | omega) (by first | done | omega)) ?_
                    rintro cn' K' N' I386 R387 L388 ⟨rfl, rfl, rfl, rfl, g389, dj392, -⟩
                    have hM393 : NmM I386 R0 L313 a1 gQ := NmM.kpS hM377 g389 hS366.1 ta1 (by decide +kernel) (by decide +kernel)
                    have hS394 := hS366.tr g389 (by decide +kernel) (by decide +kernel)
                    have c395 : I386 a1 0 = v29 := (g389.cell ta1 (by decide +kernel)).trans c369
                    have c396 : I386 a1 1 = v33 := (g389.cell ta1 (by decide +kernel)).trans c370
                    rcases dj392 with ⟨p397, p398, p399, p400, p401, p402, p403, p404, p405, gl406, -⟩ | ⟨p407, p408, p409, p410, -⟩
                    · skip
                      have hL411 := hL346.tr gl406 (by decide +kernel)
                      have hM412 : NmM I386 R0 L388 a1 gQ := NmM.kpL hM393 gl406 hS394.1 ta1 (by decide +kernel)
                      obtain ⟨v413, c414⟩ : ∃ v, I386 a0 13 = v := ⟨_, rfl⟩
                      rw [c414] at p398
                      rw [c371] at p398
                      obtain ⟨v415, c416⟩ : ∃ v, I386 a0 9 = v := ⟨_, rfl⟩
                      have b417 := iv15_9 hS394.1 ta0 c416
                      rw [c416] at p399
                      rw [c416] at p400
                      obtain ⟨v418, c419⟩ : ∃ v, I386 a0 10 = v := ⟨_, rfl⟩
                      have b420 := iv15_10 hS394.1 ta0 c419
                      rw [c419] at p401
                      obtain ⟨v421, c422⟩ : ∃ v, I386 a0 11 = v := ⟨_, rfl⟩
                      rw [c422] at p402
                      obtain ⟨y423, c424⟩ : ∃ v, L388 a0 15 = v := ⟨_, rfl⟩
                      rw [c424] at p403
                      obtain ⟨v425, c426⟩ : ∃ v, I386 a0 12 = v := ⟨_, rfl⟩
                      rw [c426] at p404
                      obtain ⟨v427, c428⟩ : ∃ v, I386 a0 8 = v := ⟨_, rfl⟩
                      have b429 := iv15_8 hS394.1 ta0 c428
                      rw [c428] at p405
                      replace hF := hF.neg (by omega)
                      replace hP := hP.neg (by omega)
                      refine tr_aload_n dX12_readAlp_63 rfl ?_
                      refine tr_getR dX12_readAlp_64 fl12_188 (kR15 hS394.1 ta0) d2 ?_
                      refine tr_getR dX12_readAlp_67 fl12_260 (kR14 hS394.1 ta1) d306 ?_
                      refine tr_iload_n dX12_readAlp_70 rfl ?_
                      refine tr_aload_n dX12_readAlp_71 rfl ?_
                      refine q_iconst dX12_readAlp_72 (by decide) ?_
                      intro v430 h431
                      refine q_bipush dX12_readAlp_73 (by decide +kernel) ?_
                      intro v432 h433
                      refine q_callVi hE (M' := mX12_readWhole) (as := [_, _]) dX12_readAlp_75 lk12_161 inX12_readWhole seX12_readWhole myX12_readWhole (by decide) ⟨by decide, by decide⟩ rfl (kR15 hS394.1 ta0) (Nat.le_of_ble_eq_true rfl) rfl rfl (by decide) (by decide) (fk_X12_readWhole hS394.1 (gB) ((tkN gB (tkN gB (tkN gB (tkN gB (tkN gB (tkN gB (tkN gB (tkN gB gs))))))))) ta0 (TxA.kp hT hS394 ta0 rfl rfl rfl (by decide +kernel) (by decide +kernel)) (by (try rw [c416]); first | done | omega) (by (try rw [c416]); first | done | omega) (by (try rw [c419]); first | done | omega) (by (try rw [c422]); first | done | omega) (by (try rw [c424]); first | done | assumption) (by (try rw [c426]); first | done | assumption) (by (try rw [c428]); first | done | assumption) (by (try rw [((hS394.cell ta0 (by decide +kernel)).trans c26)]); first | done | omega)) ?_
                      rintro v439 cn' K' N' I434 R435 L436 ⟨rfl, rfl, rfl, rfl, g437, dj440, -⟩
                      have hM441 : NmM I434 R0 L388 a1 gQ := NmM.kpS hM412 g437 hS394.1 ta1 (by decide +kernel) (by decide +kernel)
                      have hS442 := hS394.tr g437 (by decide +kernel) (by decide +kernel)
                      have c443 : I434 a1 0 = v29 := (g437.cell ta1 (by decide +kernel)).trans c395
                      have c444 : I434 a1 1 = v33 := (g437.cell ta1 (by decide +kernel)).trans c396
                      rcases dj440 with ⟨p445, p446, p447, p448, p449, p450, p451, p452, p453, p454, p455, p456, gl457, -⟩ | ⟨p458, p459, p460, p461, p462, -⟩ | ⟨p463, p464, p465, p466, p467, p468, -⟩
                      · skip
                        have hL469 := hL411.tr gl457 (by decide +kernel)
                        have hM470 : NmM I434 R0 L436 a1 gQ := NmM.kpL hM441 gl457 hS442.1 ta1 (by decide +kernel)
                        obtain ⟨v471, c472⟩ : ∃ v, I434 a0 13 = v := ⟨_, rfl⟩
                        rw [c472] at p449
                        rw [c414] at p449
                        obtain ⟨v473, c474⟩ : ∃ v, I434 a0 9 = v := ⟨_, rfl⟩
                        have b475 := iv15_9 hS442.1 ta0 c474
                        rw [c474] at p450
                        rw [c474] at p451
                        obtain ⟨v476, c477⟩ : ∃ v, I434 a0 10 = v := ⟨_, rfl⟩
                        have b478 := iv15_10 hS442.1 ta0 c477
                        rw [c477] at p452
                        obtain ⟨v479, c480⟩ : ∃ v, I434 a0 11 = v := ⟨_, rfl⟩
                        rw [c480] at p453
                        obtain ⟨y481, c482⟩ : ∃ v, L436 a0 15 = v := ⟨_, rfl⟩
                        rw [c482] at p454
                        obtain ⟨v483, c484⟩ : ∃ v, I434 a0 12 = v := ⟨_, rfl⟩
                        rw [c484] at p455
                        obtain ⟨v485, c486⟩ : ∃ v, I434 a0 8 = v := ⟨_, rfl⟩
                        have b487 := iv15_8 hS442.1 ta0 c486
                        rw [c486] at p456
                        replace hF := hF.neg (by omega)
                        replace hP := hP.neg (by omega)
                        replace hF := hF.neg (by omega)
                        replace hP := hP.neg (by omega)
                        refine q_iast dX12_readAlp_78 (kR53 hS442.1 ta305) (ti_in (nR53 hS442.1 ta305) (by omega) (by omega)) hS442 ta305 (iokF rfl) rfl (by rfl) ?_
                        intro I488 hS489 e491 f490
                        have c492 : I488 a1 0 = v29 := (f490 _ _ (fun q => by have z := ta1; rw [q.1, ta305] at z; exact absurd z (by decide))).trans c443
                        have c493 : I488 a1 1 = v33 := (f490 _ _ (fun q => by have z := ta1; rw [q.1, ta305] at z; exact absurd z (by decide))).trans c444
                        have c494 : I488 a0 13 = v471 := (f490 _ _ (fun q => by have z := ta0; rw [q.1, ta305] at z; exact absurd z (by decide))).trans c472
                        have c495 : I488 a0 9 = v473 := (f490 _ _ (fun q => by have z := ta0; rw [q.1, ta305] at z; exact absurd z (by decide))).trans c474
                        have c496 : I488 a0 10 = v476 := (f490 _ _ (fun q => by have z := ta0; rw [q.1, ta305] at z; exact absurd z (by decide))).trans c477
                        have c497 : I488 a0 11 = v479 := (f490 _ _ (fun q => by have z := ta0; rw [q.1, ta305] at z; exact absurd z (by decide))).trans c480
                        have c498 : I488 a0 12 = v483 := (f490 _ _ (fun q => by have z := ta0; rw [q.1, ta305] at z; exact absurd z (by decide))).trans c484
                        have c499 : I488 a0 8 = v485 := (f490 _ _ (fun q => by have z := ta0; rw [q.1, ta305] at z; exact absurd z (by decide))).trans c486
                        have hM500 : NmM I488 R0 L436 a1 gQ := NmM.kp1 hM470 f490 ta305 rfl rfl hS442.1 ta1
                        refine q_iincE dX12_readAlp_79 rfl (by decide) (by decide) (by intros; omega) ?_
                        intro v501 h502
                        refine tr_goto 48 dX12_readAlp_82 (by decide) ?_
                        refine tr_iload_n dX12_readAlp_48 rfl ?_
                        refine q_iconst dX12_readAlp_49 (by decide) ?_
                        intro v503 h504
                        refine q_icmp_ge 85 dX12_readAlp_50 (by decide) (fun h505 => ?_) (fun h505 => ?_)
                        · skip
                          exfalso; omega
                        · skip
                          refine tr_iload_n dX12_readAlp_53 rfl ?_
                          refine q_if_le 63 dX12_readAlp_54 (by decide) (fun h506 => ?_) (fun h506 => ?_)
                          · skip
                            exfalso; omega
                          · skip
                            refine tr_aload_n dX12_readAlp_57 rfl ?_
                            refine q_bipush dX12_readAlp_58 (by decide +kernel) ?_
                            intro v507 h508
                            refine q_callVv hE (M' := mX12_needsSign) (as := [_]) dX12_readAlp_60 lk12_257 inX12_needsSign seX12_needsSign myX12_needsSign (by decide) ⟨by decide, by decide⟩ rfl (kR15 hS489.1 ta0) (Nat.le_of_ble_eq_true rfl) rfl rfl (by decide) (by decide) (fk_X12_needsSign hS489.1 (gB) ((tkN gB (tkN gB (tkN gB (tkN gB (tkN gB (tkN gB (tkN gB (tkN gB (tkN gB gs)))))))))) ta0 (TxA.kp hT hS489 ta0 rfl rfl rfl (by decide +kernel) (by decide +kernel)) (by (try rw [c495]); first | done | omega) (by (try rw [c495]); first | done | omega) (by (try rw [c496]); first | done | omega) (by (try rw [c497]); first | done | omega) (by (try rw [c482]); first | done | assumption) (by (try rw [c498]); first | done | assumption) (by (try rw [c499]); first | done | assumption) (by (try rw [((hS489.cell ta0 (by decide +kernel)).trans c26)]); first | done | omega) (by first | done | omega)) ?_
                            rintro cn' K' N' I509 R510 L511 ⟨rfl, rfl, rfl, rfl, g512, dj515, -⟩
                            have hM516 : NmM I509 R0 L436 a1 gQ := NmM.kpS hM500 g512 hS489.1 ta1 (by decide +kernel) (by decide +kernel)
                            have hS517 := hS489.tr g512 (by decide +kernel) (by decide +kernel)
                            have c518 : I509 a1 0 = v29 := (g512.cell ta1 (by decide +kernel)).trans c492
                            have c519 : I509 a1 1 = v33 := (g512.cell ta1 (by decide +kernel)).trans c493
                            rcases dj515 with ⟨p520, p521, p522, p523, p524, p525, p526, p527, p528, gl529, -⟩ | ⟨p530, p531, p532, p533, -⟩
                            · skip
                              have hL534 := hL469.tr gl529 (by decide +kernel)
                              have hM535 : NmM I509 R0 L511 a1 gQ := NmM.kpL hM516 gl529 hS517.1 ta1 (by decide +kernel)
                              obtain ⟨v536, c537⟩ : ∃ v, I509 a0 13 = v := ⟨_, rfl⟩
                              rw [c537] at p521
                              rw [c494] at p521
                              obtain ⟨v538, c539⟩ : ∃ v, I509 a0 9 = v := ⟨_, rfl⟩
                              have b540 := iv15_9 hS517.1 ta0 c539
                              rw [c539] at p522
                              rw [c539] at p523
                              obtain ⟨v541, c542⟩ : ∃ v, I509 a0 10 = v := ⟨_, rfl⟩
                              have b543 := iv15_10 hS517.1 ta0 c542
                              rw [c542] at p524
                              obtain ⟨v544, c545⟩ : ∃ v, I509 a0 11 = v := ⟨_, rfl⟩
                              rw [c545] at p525
                              obtain ⟨y546, c547⟩ : ∃ v, L511 a0 15 = v := ⟨_, rfl⟩
                              rw [c547] at p526
                              obtain ⟨v548, c549⟩ : ∃ v, I509 a0 12 = v := ⟨_, rfl⟩
                              rw [c549] at p527
                              obtain ⟨v550, c551⟩ : ∃ v, I509 a0 8 = v := ⟨_, rfl⟩
                              have b552 := iv15_8 hS517.1 ta0 c551
                              rw [c551] at p528
                              replace hF := hF.neg (by omega)
                              replace hP := hP.neg (by omega)
                              refine tr_aload_n dX12_readAlp_63 rfl ?_
                              refine tr_getR dX12_readAlp_64 fl12_188 (kR15 hS517.1 ta0) d2 ?_
                              refine tr_getR dX12_readAlp_67 fl12_260 (kR14 hS517.1 ta1) d306 ?_
                              refine tr_iload_n dX12_readAlp_70 rfl ?_
                              refine tr_aload_n dX12_readAlp_71 rfl ?_
                              refine q_iconst dX12_readAlp_72 (by decide) ?_
                              intro v553 h554
                              refine q_bipush dX12_readAlp_73 (by decide +kernel) ?_
                              intro v555 h556
                              refine q_callVi hE (M' := mX12_readWhole) (as := [_, _]) dX12_readAlp_75 lk12_161 inX12_readWhole seX12_readWhole myX12_readWhole (by decide) ⟨by decide, by decide⟩ rfl (kR15 hS517.1 ta0) (Nat.le_of_ble_eq_true rfl) rfl rfl (by decide) (by decide) (fk_X12_readWhole hS517.1 (gB) ((tkN gB (tkN gB (tkN gB (tkN gB (tkN gB (tkN gB (tkN gB (tkN gB (tkN gB (tkN gB gs))))))))))) ta0 (TxA.kp hT hS517 ta0 rfl rfl rfl (by decide +kernel) (by decide +kernel)) (by (try rw [c539]); first | done | omega) (by (try rw [c539]); first | done | omega) (by (try rw [c542]); first | done | omega) (by (try rw [c545]); first | done | omega) (by (try rw [c547]); first | done | assumption) (by (try rw [c549]); first | done | assumption) (by (try rw [c551]); first | done | assumption) (by (try rw [((hS517.cell ta0 (by decide +kernel)).trans c26)]); first | done | omega)) ?_
                              rintro v562 cn' K' N' I557 R558 L559 ⟨rfl, rfl, rfl, rfl, g560, dj563, -⟩
                              have hM564 : NmM I557 R0 L511 a1 gQ := NmM.kpS hM535 g560 hS517.1 ta1 (by decide +kernel) (by decide +kernel)
                              have hS565 := hS517.tr g560 (by decide +kernel) (by decide +kernel)
                              have c566 : I557 a1 0 = v29 := (g560.cell ta1 (by decide +kernel)).trans c518
                              have c567 : I557 a1 1 = v33 := (g560.cell ta1 (by decide +kernel)).trans c519
                              rcases dj563 with ⟨p568, p569, p570, p571, p572, p573, p574, p575, p576, p577, p578, p579, gl580, -⟩ | ⟨p581, p582, p583, p584, p585, -⟩ | ⟨p586, p587, p588, p589, p590, p591, -⟩
                              · skip
                                have hL592 := hL534.tr gl580 (by decide +kernel)
                                have hM593 : NmM I557 R0 L559 a1 gQ := NmM.kpL hM564 gl580 hS565.1 ta1 (by decide +kernel)
                                obtain ⟨v594, c595⟩ : ∃ v, I557 a0 13 = v := ⟨_, rfl⟩
                                rw [c595] at p572
                                rw [c537] at p572
                                obtain ⟨v596, c597⟩ : ∃ v, I557 a0 9 = v := ⟨_, rfl⟩
                                have b598 := iv15_9 hS565.1 ta0 c597
                                rw [c597] at p573
                                rw [c597] at p574
                                obtain ⟨v599, c600⟩ : ∃ v, I557 a0 10 = v := ⟨_, rfl⟩
                                have b601 := iv15_10 hS565.1 ta0 c600
                                rw [c600] at p575
                                obtain ⟨v602, c603⟩ : ∃ v, I557 a0 11 = v := ⟨_, rfl⟩
                                rw [c603] at p576
                                obtain ⟨y604, c605⟩ : ∃ v, L559 a0 15 = v := ⟨_, rfl⟩
                                rw [c605] at p577
                                obtain ⟨v606, c607⟩ : ∃ v, I557 a0 12 = v := ⟨_, rfl⟩
                                rw [c607] at p578
                                obtain ⟨v608, c609⟩ : ∃ v, I557 a0 8 = v := ⟨_, rfl⟩
                                have b610 := iv15_8 hS565.1 ta0 c609
                                rw [c609] at p579
                                replace hF := hF.neg (by omega)
                                replace hP := hP.neg (by omega)
                                replace hF := hF.neg (by omega)
                                replace hP := hP.neg (by omega)
                                refine q_iast dX12_readAlp_78 (kR53 hS565.1 ta305) (ti_in (nR53 hS565.1 ta305) (by omega) (by omega)) hS565 ta305 (iokF rfl) rfl (by rfl) ?_
                                intro I611 hS612 e614 f613
                                have c615 : I611 a1 0 = v29 := (f613 _ _ (fun q => by have z := ta1; rw [q.1, ta305] at z; exact absurd z (by decide))).trans c566
                                have c616 : I611 a1 1 = v33 := (f613 _ _ (fun q => by have z := ta1; rw [q.1, ta305] at z; exact absurd z (by decide))).trans c567
                                have c617 : I611 a0 13 = v594 := (f613 _ _ (fun q => by have z := ta0; rw [q.1, ta305] at z; exact absurd z (by decide))).trans c595
                                have c618 : I611 a0 9 = v596 := (f613 _ _ (fun q => by have z := ta0; rw [q.1, ta305] at z; exact absurd z (by decide))).trans c597
                                have c619 : I611 a0 10 = v599 := (f613 _ _ (fun q => by have z := ta0; rw [q.1, ta305] at z; exact absurd z (by decide))).trans c600
                                have c620 : I611 a0 11 = v602 := (f613 _ _ (fun q => by have z := ta0; rw [q.1, ta305] at z; exact absurd z (by decide))).trans c603
                                have c621 : I611 a0 12 = v606 := (f613 _ _ (fun q => by have z := ta0; rw [q.1, ta305] at z; exact absurd z (by decide))).trans c607
                                have c622 : I611 a0 8 = v608 := (f613 _ _ (fun q => by have z := ta0; rw [q.1, ta305] at z; exact absurd z (by decide))).trans c609
                                have hM623 : NmM I611 R0 L559 a1 gQ := NmM.kp1 hM593 f613 ta305 rfl rfl hS565.1 ta1
                                refine q_iincE dX12_readAlp_79 rfl (by decide) (by decide) (by intros; omega) ?_
                                intro v624 h625
                                refine tr_goto 48 dX12_readAlp_82 (by decide) ?_
                                refine tr_iload_n dX12_readAlp_48 rfl ?_
                                refine q_iconst dX12_readAlp_49 (by decide) ?_
                                intro v626 h627
                                refine q_icmp_ge 85 dX12_readAlp_50 (by decide) (fun h628 => ?_) (fun h628 => ?_)
                                · skip
                                  exfalso; omega
                                · skip
                                  refine tr_iload_n dX12_readAlp_53 rfl ?_
                                  refine q_if_le 63 dX12_readAlp_54 (by decide) (fun h629 => ?_) (fun h629 => ?_)
                                  · skip
                                    exfalso; omega
                                  · skip
                                    refine tr_aload_n dX12_readAlp_57 rfl ?_
                                    refine q_bipush dX12_readAlp_58 (by decide +kernel) ?_
                                    intro v630 h631
                                    refine q_callVv hE (M' := mX12_needsSign) (as := [_]) dX12_readAlp_60 lk12_257 inX12_needsSign seX12_needsSign myX12_needsSign (by decide) ⟨by decide, by decide⟩ rfl (kR15 hS612.1 ta0) (Nat.le_of_ble_eq_true rfl) rfl rfl (by decide) (by decide) (fk_X12_needsSign hS612.1 (gB) ((tkN gB (tkN gB (tkN gB (tkN gB (tkN gB (tkN gB (tkN gB (tkN gB (tkN gB (tkN gB (tkN gB gs)))))))))))) ta0 (TxA.kp hT hS612 ta0 rfl rfl rfl (by decide +kernel) (by decide +kernel)) (by (try rw [c618]); first | done | omega) (by (try rw [c618]); first | done | omega) (by (try rw [c619]); first | done | omega) (by (try rw [c620]); first | done | omega) (by (try rw [c605]); first | done | assumption) (by (try rw [c621]); first | done | assumption) (by (try rw [c622]); first | done | assumption) (by (try rw [((hS612.cell ta0 (by decide +kernel)).trans c26)]); first | done | omega) (by first | done | omega)) ?_
                                    rintro cn' K' N' I632 R633 L634 ⟨rfl, rfl, rfl, rfl, g635, dj638, -⟩
                                    have hM639 : NmM I632 R0 L559 a1 gQ := NmM.kpS hM623 g635 hS612.1 ta1 (by decide +kernel) (by decide +kernel)
                                    have hS640 := hS612.tr g635 (by decide +kernel) (by decide +kernel)
                                    have c641 : I632 a1 0 = v29 := (g635.cell ta1 (by decide +kernel)).trans c615
                                    have c642 : I632 a1 1 = v33 := (g635.cell ta1 (by decide +kernel)).trans c616
                                    rcases dj638 with ⟨p643, p644, p645, p646, p647, p648, p649, p650, p651, gl652, -⟩ | ⟨p653, p654, p655, p656, -⟩
                                    · skip
                                      have hL657 := hL592.tr gl652 (by decide +kernel)
                                      have hM658 : NmM I632 R0 L634 a1 gQ := NmM.kpL hM639 gl652 hS640.1 ta1 (by decide +kernel)
                                      obtain ⟨v659, c660⟩ : ∃ v, I632 a0 13 = v := ⟨_, rfl⟩
                                      rw [c660] at p644
                                      rw [c617] at p644
                                      obtain ⟨v661, c662⟩ : ∃ v, I632 a0 9 = v := ⟨_, rfl⟩
                                      have b663 := iv15_9 hS640.1 ta0 c662
                                      rw [c662] at p645
                                      rw [c662] at p646
                                      obtain ⟨v664, c665⟩ : ∃ v, I632 a0 10 = v := ⟨_, rfl⟩
                                      have b666 := iv15_10 hS640.1 ta0 c665
                                      rw [c665] at p647
                                      obtain ⟨v667, c668⟩ : ∃ v, I632 a0 11 = v := ⟨_, rfl⟩
                                      rw [c668] at p648
                                      obtain ⟨y669, c670⟩ : ∃ v, L634 a0 15 = v := ⟨_, rfl⟩
                                      rw [c670] at p649
                                      obtain ⟨v671, c672⟩ : ∃ v, I632 a0 12 = v := ⟨_, rfl⟩
                                      rw [c672] at p650
                                      obtain ⟨v673, c674⟩ : ∃ v, I632 a0 8 = v := ⟨_, rfl⟩
                                      have b675 := iv15_8 hS640.1 ta0 c674
                                      rw [c674] at p651
                                      replace hF := hF.neg (by omega)
                                      replace hP := hP.neg (by omega)
                                      refine tr_aload_n dX12_readAlp_63 rfl ?_
                                      refine tr_getR dX12_readAlp_64 fl12_188 (kR15 hS640.1 ta0) d2 ?_
                                      refine tr_getR dX12_readAlp_67 fl12_260 (kR14 hS640.1 ta1) d306 ?_
                                      refine tr_iload_n dX12_readAlp_70 rfl ?_
                                      refine tr_aload_n dX12_readAlp_71 rfl ?_
                                      refine q_iconst dX12_readAlp_72 (by decide) ?_
                                      intro v676 h677
                                      refine q_bipush dX12_readAlp_73 (by decide +kernel) ?_
                                      intro v678 h679
                                      refine q_callVi hE (M' := mX12_readWhole) (as := [_, _]) dX12_readAlp_75 lk12_161 inX12_readWhole seX12_readWhole myX12_readWhole (by decide) ⟨by decide, by decide⟩ rfl (kR15 hS640.1 ta0) (Nat.le_of_ble_eq_true rfl) rfl rfl (by decide) (by decide) (fk_X12_readWhole hS640.1 (gB) ((tkN gB (tkN gB (tkN gB (tkN gB (tkN gB (tkN gB (tkN gB (tkN gB (tkN gB (tkN gB (tkN gB (tkN gB gs))))))))))))) ta0 (TxA.kp hT hS640 ta0 rfl rfl rfl (by decide +kernel) (by decide +kernel)) (by (try rw [c662]); first | done | omega) (by (try rw [c662]); first | done | omega) (by (try rw [c665]); first | done | omega) (by (try rw [c668]); first | done | omega) (by (try rw [c670]); first | done | assumption) (by (try rw [c672]); first | done | assumption) (by (try rw [c674]); first | done | assumption) (by (try rw [((hS640.cell ta0 (by decide +kernel)).trans c26)]); first | done | omega)) ?_
                                      rintro v685 cn' K' N' I680 R681 L682 ⟨rfl, rfl, rfl, rfl, g683, dj686, -⟩
                                      have hM687 : NmM I680 R0 L634 a1 gQ := NmM.kpS hM658 g683 hS640.1 ta1 (by decide +kernel) (by decide +kernel)
                                      have hS688 := hS640.tr g683 (by decide +kernel) (by decide +kernel)
                                      have c689 : I680 a1 0 = v29 := (g683.cell ta1 (by decide +kernel)).trans c641
                                      have c690 : I680 a1 1 = v33 := (g683.cell ta1 (by decide +kernel)).trans c642
                                      rcases dj686 with ⟨p691, p692, p693, p694, p695, p696, p697, p698, p699, p700, p701, p702, gl703, -⟩ | ⟨p704, p705, p706, p707, p708, -⟩ | ⟨p709, p710, p711, p712, p713, p714, -⟩
                                      · skip
                                        have hL715 := hL657.tr gl703 (by decide +kernel)
                                        have hM716 : NmM I680 R0 L682 a1 gQ := NmM.kpL hM687 gl703 hS688.1 ta1 (by decide +kernel)
                                        obtain ⟨v717, c718⟩ : ∃ v, I680 a0 13 = v := ⟨_, rfl⟩
                                        rw [c718] at p695
                                        rw [c660] at p695
                                        obtain ⟨v719, c720⟩ : ∃ v, I680 a0 9 = v := ⟨_, rfl⟩
                                        have b721 := iv15_9 hS688.1 ta0 c720
                                        rw [c720] at p696
                                        rw [c720] at p697
                                        obtain ⟨v722, c723⟩ : ∃ v, I680 a0 10 = v := ⟨_, rfl⟩
                                        have b724 := iv15_10 hS688.1 ta0 c723
                                        rw [c723] at p698
                                        obtain ⟨v725, c726⟩ : ∃ v, I680 a0 11 = v := ⟨_, rfl⟩
                                        rw [c726] at p699
                                        obtain ⟨y727, c728⟩ : ∃ v, L682 a0 15 = v := ⟨_, rfl⟩
                                        rw [c728] at p700
                                        obtain ⟨v729, c730⟩ : ∃ v, I680 a0 12 = v := ⟨_, rfl⟩
                                        rw [c730] at p701
                                        obtain ⟨v731, c732⟩ : ∃ v, I680 a0 8 = v := ⟨_, rfl⟩
                                        have b733 := iv15_8 hS688.1 ta0 c732
                                        rw [c732] at p702
                                        replace hF := hF.neg (by omega)
                                        replace hP := hP.neg (by omega)
                                        replace hF := hF.neg (by omega)
                                        replace hP := hP.neg (by omega)
                                        refine q_iast dX12_readAlp_78 (kR53 hS688.1 ta305) (ti_in (nR53 hS688.1 ta305) (by omega) (by omega)) hS688 ta305 (iokF rfl) rfl (by rfl) ?_
                                        intro I734 hS735 e737 f736
                                        have c738 : I734 a1 0 = v29 := (f736 _ _ (fun q => by have z := ta1; rw [q.1, ta305] at z; exact absurd z (by decide))).trans c689
                                        have c739 : I734 a1 1 = v33 := (f736 _ _ (fun q => by have z := ta1; rw [q.1, ta305] at z; exact absurd z (by decide))).trans c690
                                        have c740 : I734 a0 13 = v717 := (f736 _ _ (fun q => by have z := ta0; rw [q.1, ta305] at z; exact absurd z (by decide))).trans c718
                                        have c741 : I734 a0 9 = v719 := (f736 _ _ (fun q => by have z := ta0; rw [q.1, ta305] at z; exact absurd z (by decide))).trans c720
                                        have c742 : I734 a0 10 = v722 := (f736 _ _ (fun q => by have z := ta0; rw [q.1, ta305] at z; exact absurd z (by decide))).trans c723
                                        have c743 : I734 a0 11 = v725 := (f736 _ _ (fun q => by have z := ta0; rw [q.1, ta305] at z; exact absurd z (by decide))).trans c726
                                        have c744 : I734 a0 12 = v729 := (f736 _ _ (fun q => by have z := ta0; rw [q.1, ta305] at z; exact absurd z (by decide))).trans c730
                                        have c745 : I734 a0 8 = v731 := (f736 _ _ (fun q => by have z := ta0; rw [q.1, ta305] at z; exact absurd z (by decide))).trans c732
                                        have hM746 : NmM I734 R0 L682 a1 gQ := NmM.kp1 hM716 f736 ta305 rfl rfl hS688.1 ta1
                                        refine q_iincE dX12_readAlp_79 rfl (by decide) (by decide) (by intros; omega) ?_
                                        intro v747 h748
                                        refine tr_goto 48 dX12_readAlp_82 (by decide) ?_
                                        refine tr_iload_n dX12_readAlp_48 rfl ?_
                                        refine q_iconst dX12_readAlp_49 (by decide) ?_
                                        intro v749 h750
                                        refine q_icmp_ge 85 dX12_readAlp_50 (by decide) (fun h751 => ?_) (fun h751 => ?_)
                                        · skip
                                          exfalso; omega
                                        · skip
                                          refine tr_iload_n dX12_readAlp_53 rfl ?_
                                          refine q_if_le 63 dX12_readAlp_54 (by decide) (fun h752 => ?_) (fun h752 => ?_)
                                          · skip
                                            exfalso; omega
                                          · skip
                                            refine tr_aload_n dX12_readAlp_57 rfl ?_
                                            refine q_bipush dX12_readAlp_58 (by decide +kernel) ?_
                                            intro v753 h754
                                            refine q_callVv hE (M' := mX12_needsSign) (as := [_]) dX12_readAlp_60 lk12_257 inX12_needsSign seX12_needsSign myX12_needsSign (by decide) ⟨by decide, by decide⟩ rfl (kR15 hS735.1 ta0) (Nat.le_of_ble_eq_true rfl) rfl rfl (by decide) (by decide) (fk_X12_needsSign hS735.1 (gB) ((tkN gB (tkN gB (tkN gB (tkN gB (tkN gB (tkN gB (tkN gB (tkN gB (tkN gB (tkN gB (tkN gB (tkN gB (tkN gB gs)))))))))))))) ta0 (TxA.kp hT hS735 ta0 rfl rfl rfl (by decide +kernel) (by decide +kernel)) (by (try rw [c741]); first | done | omega) (by (try rw [c741]); first | done | omega) (by (try rw [c742]); first | done | omega) (by (try rw [c743]); first | done | omega) (by (try rw [c728]); first | done | assumption) (by (try rw [c744]); first | done | assumption) (by (try rw [c745]); first | done | assumption) (by (try rw [((hS735.cell ta0 (by decide +kernel)).trans c26)]); first | done | omega) (by first | done | omega)) ?_
                                            rintro cn' K' N' I755 R756 L757 ⟨rfl, rfl, rfl, rfl, g758, dj761, -⟩
                                            have hM762 : NmM I755 R0 L682 a1 gQ := NmM.kpS hM746 g758 hS735.1 ta1 (by decide +kernel) (by decide +kernel)
                                            have hS763 := hS735.tr g758 (by decide +kernel) (by decide +kernel)
                                            have c764 : I755 a1 0 = v29 := (g758.cell ta1 (by decide +kernel)).trans c738
                                            have c765 : I755 a1 1 = v33 := (g758.cell ta1 (by decide +kernel)).trans c739
                                            rcases dj761 with ⟨p766, p767, p768, p769, p770, p771, p772, p773, p774, gl775, -⟩ | ⟨p776, p777, p778, p779, -⟩
                                            · skip
                                              have hL780 := hL715.tr gl775 (by decide +kernel)
                                              have hM781 : NmM I755 R0 L757 a1 gQ := NmM.kpL hM762 gl775 hS763.1 ta1 (by decide +kernel)
                                              obtain ⟨v782, c783⟩ : ∃ v, I755 a0 13 = v := ⟨_, rfl⟩
                                              rw [c783] at p767
                                              rw [c740] at p767
                                              obtain ⟨v784, c785⟩ : ∃ v, I755 a0 9 = v := ⟨_, rfl⟩
                                              have b786 := iv15_9 hS763.1 ta0 c785
                                              rw [c785] at p768
                                              rw [c785] at p769
                                              obtain ⟨v787, c788⟩ : ∃ v, I755 a0 10 = v := ⟨_, rfl⟩
                                              have b789 := iv15_10 hS763.1 ta0 c788
                                              rw [c788] at p770
                                              obtain ⟨v790, c791⟩ : ∃ v, I755 a0 11 = v := ⟨_, rfl⟩
                                              rw [c791] at p771
                                              obtain ⟨y792, c793⟩ : ∃ v, L757 a0 15 = v := ⟨_, rfl⟩
                                              rw [c793] at p772
                                              obtain ⟨v794, c795⟩ : ∃ v, I755 a0 12 = v := ⟨_, rfl⟩
                                              rw [c795] at p773
                                              obtain ⟨v796, c797⟩ : ∃ v, I755 a0 8 = v := ⟨_, rfl⟩
                                              have b798 := iv15_8 hS763.1 ta0 c797
                                              rw [c797] at p774
                                              replace hF := hF.neg (by omega)
                                              replace hP := hP.neg (by omega)
                                              refine tr_aload_n dX12_readAlp_63 rfl ?_
                                              refine tr_getR dX12_readAlp_64 fl12_188 (kR15 hS763.1 ta0) d2 ?_
                                              refine tr_getR dX12_readAlp_67 fl12_260 (kR14 hS763.1 ta1) d306 ?_
                                              refine tr_iload_n dX12_readAlp_70 rfl ?_
                                              refine tr_aload_n dX12_readAlp_71 rfl ?_
                                              refine q_iconst dX12_readAlp_72 (by decide) ?_
                                              intro v799 h800
                                              refine q_bipush dX12_readAlp_73 (by decide +kernel) ?_
                                              intro v801 h802
                                              refine q_callVi hE (M' := mX12_readWhole) (as := [_, _]) dX12_readAlp_75 lk12_161 inX12_readWhole seX12_readWhole myX12_readWhole (by decide) ⟨by decide, by decide⟩ rfl (kR15 hS763.1 ta0) (Nat.le_of_ble_eq_true rfl) rfl rfl (by decide) (by decide) (fk_X12_readWhole hS763.1 (gB) ((tkN gB (tkN gB (tkN gB (tkN gB (tkN gB (tkN gB (tkN gB (tkN gB (tkN gB (tkN gB (tkN gB (tkN gB (tkN gB (tkN gB gs))))))))))))))) ta0 (TxA.kp hT hS763 ta0 rfl rfl rfl (by decide +kernel) (by decide +kernel)) (by (try rw [c785]); first | done | omega) (by (try rw [c785]); first | done | omega) (by (try rw [c788]); first | done | omega) (by (try rw [c791]); first | done | omega) (by (try rw [c793]); first | done | assumption) (by (try rw [c795]); first | done | assumption) (by (try rw [c797]); first | done | assumption) (by (try rw [((hS763.cell ta0 (by decide +kernel)).trans c26)]); first | done | omega)) ?_
                                              rintro v808 cn' K' N' I803 R804 L805 ⟨rfl, rfl, rfl, rfl, g806, dj809, -⟩
                                              have hM810 : NmM I803 R0 L757 a1 gQ := NmM.kpS hM781 g806 hS763.1 ta1 (by decide +kernel) (by decide +kernel)
                                              have hS811 := hS763.tr g806 (by decide +kernel) (by decide +kernel)
                                              have c812 : I803 a1 0 = v29 := (g806.cell ta1 (by decide +kernel)).trans c764
                                              have c813 : I803 a1 1 = v33 := (g806.cell ta1 (by decide +kernel)).trans c765
                                              rcases dj809 with ⟨p814, p815, p816, p817, p818, p819, p820, p821, p822, p823, p824, p825, gl826, -⟩ | ⟨p827, p828, p829, p830, p831, -⟩ | ⟨p832, p833, p834, p835, p836, p837, -⟩
                                              · skip
                                                have hL838 := hL780.tr gl826 (by decide +kernel)
                                                have hM839 : NmM I803 R0 L805 a1 gQ := NmM.kpL hM810 gl826 hS811.1 ta1 (by decide +kernel)
                                                obtain ⟨v840, c841⟩ : ∃ v, I803 a0 13 = v := ⟨_, rfl⟩
                                                rw [c841] at p818
                                                rw [c783] at p818
                                                obtain ⟨v842, c843⟩ : ∃ v, I803 a0 9 = v := ⟨_, rfl⟩
                                                have b844 := iv15_9 hS811.1 ta0 c843
                                                rw [c843] at p819
                                                rw [c843] at p820
                                                obtain ⟨v845, c846⟩ : ∃ v, I803 a0 10 = v := ⟨_, rfl⟩
                                                have b847 := iv15_10 hS811.1 ta0 c846
                                                rw [c846] at p821
                                                obtain ⟨v848, c849⟩ : ∃ v, I803 a0 11 = v := ⟨_, rfl⟩
                                                rw [c849] at p822
                                                obtain ⟨y850, c851⟩ : ∃ v, L805 a0 15 = v := ⟨_, rfl⟩
                                                rw [c851] at p823
                                                obtain ⟨v852, c853⟩ : ∃ v, I803 a0 12 = v := ⟨_, rfl⟩
                                                rw [c853] at p824
                                                obtain ⟨v854, c855⟩ : ∃ v, I803 a0 8 = v := ⟨_, rfl⟩
                                                have b856 := iv15_8 hS811.1 ta0 c855
                                                rw [c855] at p825
                                                replace hF := hF.neg (by omega)
                                                replace hP := hP.neg (by omega)
                                                replace hF := hF.neg (by omega)
                                                replace hP := hP.neg (by omega)
                                                refine q_iast dX12_readAlp_78 (kR53 hS811.1 ta305) (ti_in (nR53 hS811.1 ta305) (by omega) (by omega)) hS811 ta305 (iokF rfl) rfl (by rfl) ?_
                                                intro I857 hS858 e860 f859
                                                have c861 : I857 a1 0 = v29 := (f859 _ _ (fun q => by have z := ta1; rw [q.1, ta305] at z; exact absurd z (by decide))).trans c812
                                                have c862 : I857 a1 1 = v33 := (f859 _ _ (fun q => by have z := ta1; rw [q.1, ta305] at z; exact absurd z (by decide))).trans c813
                                                have c863 : I857 a0 13 = v840 := (f859 _ _ (fun q => by have z := ta0; rw [q.1, ta305] at z; exact absurd z (by decide))).trans c841
                                                have c864 : I857 a0 9 = v842 := (f859 _ _ (fun q => by have z := ta0; rw [q.1, ta305] at z; exact absurd z (by decide))).trans c843
                                                have c865 : I857 a0 10 = v845 := (f859 _ _ (fun q => by have z := ta0; rw [q.1, ta305] at z; exact absurd z (by decide))).trans c846
                                                have c866 : I857 a0 11 = v848 := (f859 _ _ (fun q => by have z := ta0; rw [q.1, ta305] at z; exact absurd z (by decide))).trans c849
                                                have c867 : I857 a0 12 = v852 := (f859 _ _ (fun q => by have z := ta0; rw [q.1, ta305] at z; exact absurd z (by decide))).trans c853
                                                have c868 : I857 a0 8 = v854 := (f859 _ _ (fun q => by have z := ta0; rw [q.1, ta305] at z; exact absurd z (by decide))).trans c855
                                                have hM869 : NmM I857 R0 L805 a1 gQ := NmM.kp1 hM839 f859 ta305 rfl rfl hS811.1 ta1
                                                refine q_iincE dX12_readAlp_79 rfl (by decide) (by decide) (by intros; omega) ?_
                                                intro v870 h871
                                                refine tr_goto 48 dX12_readAlp_82 (by decide) ?_
                                                refine tr_iload_n dX12_readAlp_48 rfl ?_
                                                refine q_iconst dX12_readAlp_49 (by decide) ?_
                                                intro v872 h873
                                                refine q_icmp_ge 85 dX12_readAlp_50 (by decide) (fun h874 => ?_) (fun h874 => ?_)
                                                · skip
                                                  refine tr_aload_n dX12_readAlp_85 rfl ?_
                                                  refine q_getI dX12_readAlp_86 fl12_99 (kR15 hS858.1 ta0) c864 ?_
                                                  refine q_iconst dX12_readAlp_89 (by decide) ?_
                                                  intro v875 h876
                                                  refine q_icmp_ne 94 dX12_readAlp_90 (by decide) (fun h877 => ?_) (fun h877 => ?_)
                                                  · skip
                                                    refine tr_aload_n dX12_readAlp_94 rfl ?_
                                                    refine tr_getR dX12_readAlp_95 fl12_188 (kR15 hS858.1 ta0) d2 ?_
                                                    refine tr_iload_n dX12_readAlp_98 rfl ?_
                                                    refine q_putX dX12_readAlp_99 fl12_192 (kR14 hS858.1 ta1) (Or.inl rfl) hS858 ta1 (by decide +kernel) (hS858.1.putM ta1 (by omega)) ?_
                                                    intro I878 hS879 e880 f881
                                                    have c882 : I878 a1 1 = v33 := (f881 _ _ (fun q => absurd q.2 (by decide))).trans c862
                                                    have c883 : I878 a0 13 = v840 := (f881 _ _ (fun q => absurd q.2 (by decide))).trans c863
                                                    have c884 : I878 a0 9 = v842 := (f881 _ _ (fun q => absurd q.2 (by decide))).trans c864
                                                    have c885 : I878 a0 10 = v845 := (f881 _ _ (fun q => absurd q.2 (by decide))).trans c865
                                                    have c886 : I878 a0 11 = v848 := (f881 _ _ (fun q => absurd q.2 (by decide))).trans c866
                                                    have c887 : I878 a0 12 = v852 := (f881 _ _ (fun q => absurd q.2 (by decide))).trans c867
                                                    have c888 : I878 a0 8 = v854 := (f881 _ _ (fun q => absurd q.2 (by decide))).trans c868
                                                    have hM889 : NmM I878 R0 L805 a1 gQ := NmM.kp1 hM869 f881 ta1 rfl rfl hS858.1 ta1
                                                    refine tr_aload_n dX12_readAlp_102 rfl ?_
                                                    refine tr_getR dX12_readAlp_103 fl12_188 (kR15 hS879.1 ta0) d2 ?_
                                                    refine tr_iload_n dX12_readAlp_106 rfl ?_
                                                    refine q_putI dX12_readAlp_107 fl12_263 (kR14 hS879.1 ta1) (Or.inl rfl) hS879 ta1 (by show (0 : Int) ≤ v194.toInt ∧ v194.toInt ≤ (4 : Int); omega) rfl (by decide +kernel) ?_
                                                    intro I890 hS891 e892 f893
                                                    have c894 : I890 a0 13 = v840 := (f893 _ _ (fun q => absurd q.2 (by decide))).trans c883
                                                    have c895 : I890 a0 9 = v842 := (f893 _ _ (fun q => absurd q.2 (by decide))).trans c884
                                                    have c896 : I890 a0 10 = v845 := (f893 _ _ (fun q => absurd q.2 (by decide))).trans c885
                                                    have c897 : I890 a0 11 = v848 := (f893 _ _ (fun q => absurd q.2 (by decide))).trans c886
                                                    have c898 : I890 a0 12 = v852 := (f893 _ _ (fun q => absurd q.2 (by decide))).trans c887
                                                    have c899 : I890 a0 8 = v854 := (f893 _ _ (fun q => absurd q.2 (by decide))).trans c888
                                                    have c900 : I890 a1 0 = v125 := (f893 _ _ (fun q => absurd q.2 (by decide))).trans e880
                                                    have hM901 : NmM I890 R0 L805 a1 gQ := NmM.kp1 hM889 f893 ta1 rfl rfl hS879.1 ta1
                                                    have eF := hF.eq
                                                    have eP := hP.eq
                                                    obtain ⟨v902, c903⟩ : ∃ v, I890 a0 14 = v := ⟨_, rfl⟩
                                                    exact tr_vret hZ dX12_readAlp_110 rfl (by decide) (by decide) ⟨rfl, rfl, rfl, rfl, rfl, hS891, (Or.inl ⟨(by (try rw [w106]); first | done | omega), (fun q0 z0 => by obtain rfl := Option.some.inj ((d2).symm.trans z0); (try rw [w106]); (try rw [c900]); first | done | omega), (fun q0 z0 => by obtain rfl := Option.some.inj ((d2).symm.trans z0); (try rw [w106]); (try rw [e892]); first | done | omega), (fun q0 z0 => by obtain rfl := Option.some.inj ((d2).symm.trans z0); (try rw [w106]); (try rw [((hS891.cell ta1 (by decide +kernel)).trans c38)]); first | done | omega), (fun q0 z0 => by obtain rfl := Option.some.inj ((d2).symm.trans z0); (try rw [w106]); (try rw [((hS891.cell ta1 (by decide +kernel)).trans c42)]); first | done | omega), (fun q0 z0 => by obtain rfl := Option.some.inj ((d2).symm.trans z0); (try rw [w106]); (try rw [((hS891.cell ta1 (by decide +kernel)).trans c46)]); first | done | omega), (fun q0 z0 => by obtain rfl := Option.some.inj ((d2).symm.trans z0); (try rw [w106]); (try rw [((hS891.cell ta1 (by decide +kernel)).trans c50)]); first | done | omega), (fun q0 z0 => by obtain rfl := Option.some.inj ((d2).symm.trans z0); (try rw [w106]); (try rw [((hS891.cell ta1 (by decide +kernel)).trans c54)]); first | done | omega), (fun q0 z0 => by obtain rfl := Option.some.inj ((d2).symm.trans z0); (try rw [w106]); (try rw [((hS891.cell ta1 (by decide +kernel)).trans c58)]); first | done | omega), (by (try rw [w106]); (try rw [c894]); (try rw [c65]); first | done | omega), (by (try rw [w106]); (try rw [c895]); first | done | omega), (by (try rw [w106]); (try rw [c895]); first | done | omega), (by (try rw [w106]); (try rw [c896]); first | done | omega), (by (try rw [w106]); (try rw [c897]); first | done | omega), (by (try rw [w106]); (try rw [c851]); first | done | assumption), (by (try rw [w106]); (try rw [c898]); first | done | assumption), (by (try rw [w106]); (try rw [c899]); first | done | assumption), hL838, (fun b hb => (Option.some.inj (d2.symm.trans hb)) ▸ NmM.ln (NmM.bd (k := srt gB gs) hM901 (by omega) (by omega)) rfl), trivial⟩), trivial⟩
                                                  · skip
                                                    exfalso; omega
                                                · skip
                                                  exfalso; omega
                                              · skip
                                                obtain ⟨v904, c905⟩ : ∃ v, I803 a0 9 = v := ⟨_, rfl⟩
                                                have b906 := iv15_9 hS811.1 ta0 c905
                                                rw [c905] at p829
                                                obtain ⟨v907, c908⟩ : ∃ v, I803 a0 13 = v := ⟨_, rfl⟩
                                                rw [c908] at p830
                                                obtain ⟨v909, c910⟩ : ∃ v, I803 a0 14 = v := ⟨_, rfl⟩
                                                rw [c910] at p831
                                                replace hF := hF.pos (by omega)
                                                replace hP := hP.pos (by omega)
                                                refine q_iast dX12_readAlp_78 (kR53 hS811.1 ta305) (ti_in (nR53 hS811.1 ta305) (by omega) (by omega)) hS811 ta305 (iokF rfl) rfl (by rfl) ?_
                                                intro I911 hS912 e914 f913
                                                have c915 : I911 a1 0 = v29 := (f913 _ _ (fun q => by have z := ta1; rw [q.1, ta305] at z; exact absurd z (by decide))).trans c812
                                                have c916 : I911 a1 1 = v33 := (f913 _ _ (fun q => by have z := ta1; rw [q.1, ta305] at z; exact absurd z (by decide))).trans c813
                                                have c917 : I911 a0 9 = v904 := (f913 _ _ (fun q => by have z := ta0; rw [q.1, ta305] at z; exact absurd z (by decide))).trans c905
                                                have c918 : I911 a0 13 = v907 := (f913 _ _ (fun q => by have z := ta0; rw [q.1, ta305] at z; exact absurd z (by decide))).trans c908
                                                have c919 : I911 a0 14 = v909 := (f913 _ _ (fun q => by have z := ta0; rw [q.1, ta305] at z; exact absurd z (by decide))).trans c910
                                                refine q_iincE dX12_readAlp_79 rfl (by decide) (by decide) (by intros; omega) ?_
                                                intro v920 h921
                                                refine tr_goto 48 dX12_readAlp_82 (by decide) ?_
                                                refine tr_iload_n dX12_readAlp_48 rfl ?_
                                                refine q_iconst dX12_readAlp_49 (by decide) ?_
                                                intro v922 h923
                                                refine q_icmp_ge 85 dX12_readAlp_50 (by decide) (fun h924 => ?_) (fun h924 => ?_)
                                                · skip
                                                  refine tr_aload_n dX12_readAlp_85 rfl ?_
                                                  refine q_getI dX12_readAlp_86 fl12_99 (kR15 hS912.1 ta0) c917 ?_
                                                  refine q_iconst dX12_readAlp_89 (by decide) ?_
                                                  intro v925 h926
                                                  refine q_icmp_ne 94 dX12_readAlp_90 (by decide) (fun h927 => ?_) (fun h927 => ?_)
                                                  · skip
                                                    exfalso; omega
                                                  · skip
                                                    have eF := hF.eq
                                                    have eP := hP.eq
                                                    obtain ⟨v928, c929⟩ : ∃ v, I911 a0 10 = v := ⟨_, rfl⟩
                                                    have b930 := iv15_10 hS912.1 ta0 c929
                                                    obtain ⟨v931, c932⟩ : ∃ v, I911 a0 11 = v := ⟨_, rfl⟩
                                                    obtain ⟨y933, c934⟩ : ∃ v, L805 a0 15 = v := ⟨_, rfl⟩
                                                    obtain ⟨v935, c936⟩ : ∃ v, I911 a0 12 = v := ⟨_, rfl⟩
                                                    obtain ⟨v937, c938⟩ : ∃ v, I911 a0 8 = v := ⟨_, rfl⟩
                                                    have b939 := iv15_8 hS912.1 ta0 c938
                                                    exact tr_vret hZ dX12_readAlp_93 rfl (by decide) (by decide) ⟨rfl, rfl, rfl, rfl, rfl, hS912, (Or.inr (⟨(by (try rw [w106]); first | done | omega), (by (try rw [w106]); (try rw [c917]); first | done | omega), (by (try rw [w106]); (try rw [c918]); first | done | omega), (by (try rw [w106]); (try rw [c919]); first | done | omega), trivial⟩)), trivial⟩
                                                · skip
                                                  exfalso; omega
                                              · skip
                                                obtain ⟨v940, c941⟩ : ∃ v, I803 a0 9 = v := ⟨_, rfl⟩
                                                have b942 := iv15_9 hS811.1 ta0 c941
                                                rw [c941] at p835
                                                obtain ⟨v943, c944⟩ : ∃ v, I803 a0 13 = v := ⟨_, rfl⟩
                                                rw [c944] at p836
                                                obtain ⟨v945, c946⟩ : ∃ v, I803 a0 14 = v := ⟨_, rfl⟩
                                                rw [c946] at p837
                                                replace hF := hF.neg (by omega)
                                                replace hP := hP.neg (by omega)
                                                replace hF := hF.pos (by omega)
                                                replace hP := hP.pos (by omega)
                                                refine q_iast dX12_readAlp_78 (kR53 hS811.1 ta305) (ti_in (nR53 hS811.1 ta305) (by omega) (by omega)) hS811 ta305 (iokF rfl) rfl (by rfl) ?_
                                                intro I947 hS948 e950 f949
                                                have c951 : I947 a1 0 = v29 := (f949 _ _ (fun q => by have z := ta1; rw [q.1, ta305] at z; exact absurd z (by decide))).trans c812
                                                have c952 : I947 a1 1 = v33 := (f949 _ _ (fun q => by have z := ta1; rw [q.1, ta305] at z; exact absurd z (by decide))).trans c813
                                                have c953 : I947 a0 9 = v940 := (f949 _ _ (fun q => by have z := ta0; rw [q.1, ta305] at z; exact absurd z (by decide))).trans c941
                                                have c954 : I947 a0 13 = v943 := (f949 _ _ (fun q => by have z := ta0; rw [q.1, ta305] at z; exact absurd z (by decide))).trans c944
                                                have c955 : I947 a0 14 = v945 := (f949 _ _ (fun q => by have z := ta0; rw [q.1, ta305] at z; exact absurd z (by decide))).trans c946
                                                refine q_iincE dX12_readAlp_79 rfl (by decide) (by decide) (by intros; omega) ?_
                                                intro v956 h957
                                                refine tr_goto 48 dX12_readAlp_82 (by decide) ?_
                                                refine tr_iload_n dX12_readAlp_48 rfl ?_
                                                refine q_iconst dX12_readAlp_49 (by decide) ?_
                                                intro v958 h959
                                                refine q_icmp_ge 85 dX12_readAlp_50 (by decide) (fun h960 => ?_) (fun h960 => ?_)
                                                · skip
                                                  refine tr_aload_n dX12_readAlp_85 rfl ?_
                                                  refine q_getI dX12_readAlp_86 fl12_99 (kR15 hS948.1 ta0) c953 ?_
                                                  refine q_iconst dX12_readAlp_89 (by decide) ?_
                                                  intro v961 h962
                                                  refine q_icmp_ne 94 dX12_readAlp_90 (by decide) (fun h963 => ?_) (fun h963 => ?_)
                                                  · skip
                                                    exfalso; omega
                                                  · skip
                                                    have eF := hF.eq
                                                    have eP := hP.eq
                                                    obtain ⟨v964, c965⟩ : ∃ v, I947 a0 10 = v := ⟨_, rfl⟩
                                                    have b966 := iv15_10 hS948.1 ta0 c965
                                                    obtain ⟨v967, c968⟩ : ∃ v, I947 a0 11 = v := ⟨_, rfl⟩
                                                    obtain ⟨y969, c970⟩ : ∃ v, L805 a0 15 = v := ⟨_, rfl⟩
                                                    obtain ⟨v971, c972⟩ : ∃ v, I947 a0 12 = v := ⟨_, rfl⟩
                                                    obtain ⟨v973, c974⟩ : ∃ v, I947 a0 8 = v := ⟨_, rfl⟩
                                                    have b975 := iv15_8 hS948.1 ta0 c974
                                                    exact tr_vret hZ dX12_readAlp_93 rfl (by decide) (by decide) ⟨rfl, rfl, rfl, rfl, rfl, hS948, (Or.inr (⟨(by (try rw [w106]); first | done | omega), (by (try rw [w106]); (try rw [c953]); first | done | omega), (by (try rw [w106]); (try rw [c954]); first | done | omega), (by (try rw [w106]); (try rw [c955]); first | done | omega), trivial⟩)), trivial⟩
                                                · skip
                                                  exfalso; omega
                                            · skip
                                              obtain ⟨v976, c977⟩ : ∃ v, I755 a0 9 = v := ⟨_, rfl⟩
                                              have b978 := iv15_9 hS763.1 ta0 c977
                                              rw [c977] at p777
                                              obtain ⟨v979, c980⟩ : ∃ v, I755 a0 13 = v := ⟨_, rfl⟩
                                              rw [c980] at p778
                                              obtain ⟨v981, c982⟩ : ∃ v, I755 a0 14 = v := ⟨_, rfl⟩
                                              rw [c982] at p779
                                              replace hF := hF.pos (by omega)
                                              replace hP := hP.pos (by omega)
                                              refine tr_aload_n dX12_readAlp_63 rfl ?_
                                              refine tr_getR dX12_readAlp_64 fl12_188 (kR15 hS763.1 ta0) d2 ?_
                                              refine tr_getR dX12_readAlp_67 fl12_260 (kR14 hS763.1 ta1) d306 ?_
                                              refine tr_iload_n dX12_readAlp_70 rfl ?_
                                              refine tr_aload_n dX12_readAlp_71 rfl ?_
                                              refine q_iconst dX12_readAlp_72 (by decide) ?_
                                              intro v983 h984
                                              refine q_bipush dX12_readAlp_73 (by decide +kernel) ?_
                                              intro v985 h986
                                              refine q_callVi hE (M' := mX12_readWhole) (as := [_, _]) dX12_readAlp_75 lk12_161 inX12_readWhole seX12_readWhole myX12_readWhole (by decide) ⟨by decide, by decide⟩ rfl (kR15 hS763.1 ta0) (Nat.le_of_ble_eq_true rfl) rfl rfl (by decide) (by decide) (k_X12_readWhole hS763.1 ta0) ?_
                                              rintro v991 cn' K' N' I987 R988 L989 ⟨rfl, rfl, rfl, rfl, g990, p992, w993, -⟩
                                              have hS994 := hS763.tr g990 (by decide +kernel) (by decide +kernel)
                                              have c995 : I987 a1 0 = v29 := (g990.cell ta1 (by decide +kernel)).trans c764
                                              have c996 : I987 a1 1 = v33 := (g990.cell ta1 (by decide +kernel)).trans c765
                                              have b997 : 0 ≤ v991.toInt ∧ v991.toInt ≤ 99 := by omega
                                              clear p992
                                              have ov998 := w993.over (by rw [c977]; omega)
                                              obtain ⟨v999, c1000⟩ : ∃ v, I987 a0 9 = v := ⟨_, rfl⟩
                                              have b1001 := iv15_9 hS994.1 ta0 c1000
                                              obtain ⟨v1002, c1003⟩ : ∃ v, I987 a0 13 = v := ⟨_, rfl⟩
                                              obtain ⟨v1004, c1005⟩ : ∃ v, I987 a0 14 = v := ⟨_, rfl⟩
                                              (try rw [c1000] at ov998)
                                              (try rw [c1003] at ov998)
                                              (try rw [c1005] at ov998)
                                              (try rw [c977] at ov998)
                                              (try rw [c980] at ov998)
                                              (try rw [c982] at ov998)
                                              refine q_iast dX12_readAlp_78 (kR53 hS994.1 ta305) (ti_in (nR53 hS994.1 ta305) (by omega) (by omega)) hS994 ta305 (iokF rfl) rfl (by rfl) ?_
                                              intro I1006 hS1007 e1009 f1008
                                              have c1010 : I1006 a1 0 = v29 := (f1008 _ _ (fun q => by have z := ta1; rw [q.1, ta305] at z; exact absurd z (by decide))).trans c995
                                              have c1011 : I1006 a1 1 = v33 := (f1008 _ _ (fun q => by have z := ta1; rw [q.1, ta305] at z; exact absurd z (by decide))).trans c996
                                              have c1012 : I1006 a0 9 = v999 := (f1008 _ _ (fun q => by have z := ta0; rw [q.1, ta305] at z; exact absurd z (by decide))).trans c1000
                                              have c1013 : I1006 a0 13 = v1002 := (f1008 _ _ (fun q => by have z := ta0; rw [q.1, ta305] at z; exact absurd z (by decide))).trans c1003
                                              have c1014 : I1006 a0 14 = v1004 := (f1008 _ _ (fun q => by have z := ta0; rw [q.1, ta305] at z; exact absurd z (by decide))).trans c1005
                                              refine q_iincE dX12_readAlp_79 rfl (by decide) (by decide) (by intros; omega) ?_
                                              intro v1015 h1016
                                              refine tr_goto 48 dX12_readAlp_82 (by decide) ?_
                                              refine tr_iload_n dX12_readAlp_48 rfl ?_
                                              refine q_iconst dX12_readAlp_49 (by decide) ?_
                                              intro v1017 h1018
                                              refine q_icmp_ge 85 dX12_readAlp_50 (by decide) (fun h1019 => ?_) (fun h1019 => ?_)
                                              · skip
                                                refine tr_aload_n dX12_readAlp_85 rfl ?_
                                                refine q_getI dX12_readAlp_86 fl12_99 (kR15 hS1007.1 ta0) c1012 ?_
                                                refine q_iconst dX12_readAlp_89 (by decide) ?_
                                                intro v1020 h1021
                                                refine q_icmp_ne 94 dX12_readAlp_90 (by decide) (fun h1022 => ?_) (fun h1022 => ?_)
                                                · skip
                                                  exfalso; omega
                                                · skip
                                                  have eF := hF.eq
                                                  have eP := hP.eq
                                                  obtain ⟨v1023, c1024⟩ : ∃ v, I1006 a0 10 = v := ⟨_, rfl⟩
                                                  have b1025 := iv15_10 hS1007.1 ta0 c1024
                                                  obtain ⟨v1026, c1027⟩ : ∃ v, I1006 a0 11 = v := ⟨_, rfl⟩
                                                  obtain ⟨y1028, c1029⟩ : ∃ v, L989 a0 15 = v := ⟨_, rfl⟩
                                                  obtain ⟨v1030, c1031⟩ : ∃ v, I1006 a0 12 = v := ⟨_, rfl⟩
                                                  obtain ⟨v1032, c1033⟩ : ∃ v, I1006 a0 8 = v := ⟨_, rfl⟩
                                                  have b1034 := iv15_8 hS1007.1 ta0 c1033
                                                  exact tr_vret hZ dX12_readAlp_93 rfl (by decide) (by decide) ⟨rfl, rfl, rfl, rfl, rfl, hS1007, (Or.inr (⟨(by (try rw [w106]); first | done | omega), (by (try rw [w106]); (try rw [c1012]); first | done | omega), (by (try rw [w106]); (try rw [c1013]); first | done | omega), (by (try rw [w106]); (try rw [c1014]); first | done | omega), trivial⟩)), trivial⟩
                                              · skip
                                                exfalso; omega
                                      · skip
                                        obtain ⟨v1035, c1036⟩ : ∃ v, I680 a0 9 = v := ⟨_, rfl⟩
                                        have b1037 := iv15_9 hS688.1 ta0 c1036
                                        rw [c1036] at p706
                                        obtain ⟨v1038, c1039⟩ : ∃ v, I680 a0 13 = v := ⟨_, rfl⟩
                                        rw [c1039] at p707
                                        obtain ⟨v1040, c1041⟩ : ∃ v, I680 a0 14 = v := ⟨_, rfl⟩
                                        rw [c1041] at p708
                                        replace hF := hF.pos (by omega)
                                        replace hP := hP.pos (by omega)
                                        refine q_iast dX12_readAlp_78 (kR53 hS688.1 ta305) (ti_in (nR53 hS688.1 ta305) (by omega) (by omega)) hS688 ta305 (iokF rfl) rfl (by rfl) ?_
                                        intro I1042 hS1043 e1045 f1044
                                        have c1046 : I1042 a1 0 = v29 := (f1044 _ _ (fun q => by have z := ta1; rw [q.1, ta305] at z; exact absurd z (by decide))).trans c689
                                        have c1047 : I1042 a1 1 = v33 := (f1044 _ _ (fun q => by have z := ta1; rw [q.1, ta305] at z; exact absurd z (by decide))).trans c690
                                        have c1048 : I1042 a0 9 = v1035 := (f1044 _ _ (fun q => by have z := ta0; rw [q.1, ta305] at z; exact absurd z (by decide))).trans c1036
                                        have c1049 : I1042 a0 13 = v1038 := (f1044 _ _ (fun q => by have z := ta0; rw [q.1, ta305] at z; exact absurd z (by decide))).trans c1039
                                        have c1050 : I1042 a0 14 = v1040 := (f1044 _ _ (fun q => by have z := ta0; rw [q.1, ta305] at z; exact absurd z (by decide))).trans c1041
                                        refine q_iincE dX12_readAlp_79 rfl (by decide) (by decide) (by intros; omega) ?_
                                        intro v1051 h1052
                                        refine tr_goto 48 dX12_readAlp_82 (by decide) ?_
                                        refine tr_iload_n dX12_readAlp_48 rfl ?_
                                        refine q_iconst dX12_readAlp_49 (by decide) ?_
                                        intro v1053 h1054
                                        refine q_icmp_ge 85 dX12_readAlp_50 (by decide) (fun h1055 => ?_) (fun h1055 => ?_)
                                        · skip
                                          exfalso; omega
                                        · skip
                                          refine tr_iload_n dX12_readAlp_53 rfl ?_
                                          refine q_if_le 63 dX12_readAlp_54 (by decide) (fun h1056 => ?_) (fun h1056 => ?_)
                                          · skip
                                            exfalso; omega
                                          · skip
                                            refine tr_aload_n dX12_readAlp_57 rfl ?_
                                            refine q_bipush dX12_readAlp_58 (by decide +kernel) ?_
                                            intro v1057 h1058
                                            refine q_callVv hE (M' := mX12_needsSign) (as := [_]) dX12_readAlp_60 lk12_257 inX12_needsSign seX12_needsSign myX12_needsSign (by decide) ⟨by decide, by decide⟩ rfl (kR15 hS1043.1 ta0) (Nat.le_of_ble_eq_true rfl) rfl rfl (by decide) (by decide) (k_X12_needsSign hS1043.1 ta0) ?_
                                            rintro cn' K' N' I1059 R1060 L1061 ⟨rfl, rfl, rfl, rfl, g1062, w1064, -⟩
                                            have hS1065 := hS1043.tr g1062 (by decide +kernel) (by decide +kernel)
                                            have c1066 : I1059 a1 0 = v29 := (g1062.cell ta1 (by decide +kernel)).trans c1046
                                            have c1067 : I1059 a1 1 = v33 := (g1062.cell ta1 (by decide +kernel)).trans c1047
                                            have ov1068 := w1064.over (by rw [c1048]; omega)
                                            obtain ⟨v1069, c1070⟩ : ∃ v, I1059 a0 9 = v := ⟨_, rfl⟩
                                            have b1071 := iv15_9 hS1065.1 ta0 c1070
                                            obtain ⟨v1072, c1073⟩ : ∃ v, I1059 a0 13 = v := ⟨_, rfl⟩
                                            obtain ⟨v1074, c1075⟩ : ∃ v, I1059 a0 14 = v := ⟨_, rfl⟩
                                            (try rw [c1070] at ov1068)
                                            (try rw [c1073] at ov1068)
                                            (try rw [c1075] at ov1068)
                                            (try rw [c1048] at ov1068)
                                            (try rw [c1049] at ov1068)
                                            (try rw [c1050] at ov1068)
                                            refine tr_aload_n dX12_readAlp_63 rfl ?_
                                            refine tr_getR dX12_readAlp_64 fl12_188 (kR15 hS1065.1 ta0) d2 ?_
                                            refine tr_getR dX12_readAlp_67 fl12_260 (kR14 hS1065.1 ta1) d306 ?_
                                            refine tr_iload_n dX12_readAlp_70 rfl ?_
                                            refine tr_aload_n dX12_readAlp_71 rfl ?_
                                            refine q_iconst dX12_readAlp_72 (by decide) ?_
                                            intro v1076 h1077
                                            refine q_bipush dX12_readAlp_73 (by decide +kernel) ?_
                                            intro v1078 h1079
                                            refine q_callVi hE (M' := mX12_readWhole) (as := [_, _]) dX12_readAlp_75 lk12_161 inX12_readWhole seX12_readWhole myX12_readWhole (by decide) ⟨by decide, by decide⟩ rfl (kR15 hS1065.1 ta0) (Nat.le_of_ble_eq_true rfl) rfl rfl (by decide) (by decide) (k_X12_readWhole hS1065.1 ta0) ?_
                                            rintro v1084 cn' K' N' I1080 R1081 L1082 ⟨rfl, rfl, rfl, rfl, g1083, p1085, w1086, -⟩
                                            have hS1087 := hS1065.tr g1083 (by decide +kernel) (by decide +kernel)
                                            have c1088 : I1080 a1 0 = v29 := (g1083.cell ta1 (by decide +kernel)).trans c1066
                                            have c1089 : I1080 a1 1 = v33 := (g1083.cell ta1 (by decide +kernel)).trans c1067
                                            have b1090 : 0 ≤ v1084.toInt ∧ v1084.toInt ≤ 99 := by omega
                                            clear p1085
                                            have ov1091 := w1086.over (by rw [c1070]; omega)
                                            obtain ⟨v1092, c1093⟩ : ∃ v, I1080 a0 9 = v := ⟨_, rfl⟩
                                            have b1094 := iv15_9 hS1087.1 ta0 c1093
                                            obtain ⟨v1095, c1096⟩ : ∃ v, I1080 a0 13 = v := ⟨_, rfl⟩
                                            obtain ⟨v1097, c1098⟩ : ∃ v, I1080 a0 14 = v := ⟨_, rfl⟩
                                            (try rw [c1093] at ov1091)
                                            (try rw [c1096] at ov1091)
                                            (try rw [c1098] at ov1091)
                                            (try rw [c1070] at ov1091)
                                            (try rw [c1073] at ov1091)
                                            (try rw [c1075] at ov1091)
                                            refine q_iast dX12_readAlp_78 (kR53 hS1087.1 ta305) (ti_in (nR53 hS1087.1 ta305) (by omega) (by omega)) hS1087 ta305 (iokF rfl) rfl (by rfl) ?_
                                            intro I1099 hS1100 e1102 f1101
                                            have c1103 : I1099 a1 0 = v29 := (f1101 _ _ (fun q => by have z := ta1; rw [q.1, ta305] at z; exact absurd z (by decide))).trans c1088
                                            have c1104 : I1099 a1 1 = v33 := (f1101 _ _ (fun q => by have z := ta1; rw [q.1, ta305] at z; exact absurd z (by decide))).trans c1089
                                            have c1105 : I1099 a0 9 = v1092 := (f1101 _ _ (fun q => by have z := ta0; rw [q.1, ta305] at z; exact absurd z (by decide))).trans c1093
                                            have c1106 : I1099 a0 13 = v1095 := (f1101 _ _ (fun q => by have z := ta0; rw [q.1, ta305] at z; exact absurd z (by decide))).trans c1096
                                            have c1107 : I1099 a0 14 = v1097 := (f1101 _ _ (fun q => by have z := ta0; rw [q.1, ta305] at z; exact absurd z (by decide))).trans c1098
                                            refine q_iincE dX12_readAlp_79 rfl (by decide) (by decide) (by intros; omega) ?_
                                            intro v1108 h1109
                                            refine tr_goto 48 dX12_readAlp_82 (by decide) ?_
                                            refine tr_iload_n dX12_readAlp_48 rfl ?_
                                            refine q_iconst dX12_readAlp_49 (by decide) ?_
                                            intro v1110 h1111
                                            refine q_icmp_ge 85 dX12_readAlp_50 (by decide) (fun h1112 => ?_) (fun h1112 => ?_)
                                            · skip
                                              refine tr_aload_n dX12_readAlp_85 rfl ?_
                                              refine q_getI dX12_readAlp_86 fl12_99 (kR15 hS1100.1 ta0) c1105 ?_
                                              refine q_iconst dX12_readAlp_89 (by decide) ?_
                                              intro v1113 h1114
                                              refine q_icmp_ne 94 dX12_readAlp_90 (by decide) (fun h1115 => ?_) (fun h1115 => ?_)
                                              · skip
                                                exfalso; omega
                                              · skip
                                                have eF := hF.eq
                                                have eP := hP.eq
                                                obtain ⟨v1116, c1117⟩ : ∃ v, I1099 a0 10 = v := ⟨_, rfl⟩
                                                have b1118 := iv15_10 hS1100.1 ta0 c1117
                                                obtain ⟨v1119, c1120⟩ : ∃ v, I1099 a0 11 = v := ⟨_, rfl⟩
                                                obtain ⟨y1121, c1122⟩ : ∃ v, L1082 a0 15 = v := ⟨_, rfl⟩
                                                obtain ⟨v1123, c1124⟩ : ∃ v, I1099 a0 12 = v := ⟨_, rfl⟩
                                                obtain ⟨v1125, c1126⟩ : ∃ v, I1099 a0 8 = v := ⟨_, rfl⟩
                                                have b1127 := iv15_8 hS1100.1 ta0 c1126
                                                exact tr_vret hZ dX12_readAlp_93 rfl (by decide) (by decide) ⟨rfl, rfl, rfl, rfl, rfl, hS1100, (Or.inr (⟨(by (try rw [w106]); first | done | omega), (by (try rw [w106]); (try rw [c1105]); first | done | omega), (by (try rw [w106]); (try rw [c1106]); first | done | omega), (by (try rw [w106]); (try rw [c1107]); first | done | omega), trivial⟩)), trivial⟩
                                            · skip
                                              exfalso; omega
                                      · skip
                                        obtain ⟨v1128, c1129⟩ : ∃ v, I680 a0 9 = v := ⟨_, rfl⟩
                                        have b1130 := iv15_9 hS688.1 ta0 c1129
                                        rw [c1129] at p712
                                        obtain ⟨v1131, c1132⟩ : ∃ v, I680 a0 13 = v := ⟨_, rfl⟩
                                        rw [c1132] at p713
                                        obtain ⟨v1133, c1134⟩ : ∃ v, I680 a0 14 = v := ⟨_, rfl⟩
                                        rw [c1134] at p714
                                        replace hF := hF.neg (by omega)
                                        replace hP := hP.neg (by omega)
                                        replace hF := hF.pos (by omega)
                                        replace hP := hP.pos (by omega)
                                        refine q_iast dX12_readAlp_78 (kR53 hS688.1 ta305) (ti_in (nR53 hS688.1 ta305) (by omega) (by omega)) hS688 ta305 (iokF rfl) rfl (by rfl) ?_
                                        intro I1135 hS1136 e1138 f1137
                                        have c1139 : I1135 a1 0 = v29 := (f1137 _ _ (fun q => by have z := ta1; rw [q.1, ta305] at z; exact absurd z (by decide))).trans c689
                                        have c1140 : I1135 a1 1 = v33 := (f1137 _ _ (fun q => by have z := ta1; rw [q.1, ta305] at z; exact absurd z (by decide))).trans c690
                                        have c1141 : I1135 a0 9 = v1128 := (f1137 _ _ (fun q => by have z := ta0; rw [q.1, ta305] at z; exact absurd z (by decide))).trans c1129
                                        have c1142 : I1135 a0 13 = v1131 := (f1137 _ _ (fun q => by have z := ta0; rw [q.1, ta305] at z; exact absurd z (by decide))).trans c1132
                                        have c1143 : I1135 a0 14 = v1133 := (f1137 _ _ (fun q => by have z := ta0; rw [q.1, ta305] at z; exact absurd z (by decide))).trans c1134
                                        refine q_iincE dX12_readAlp_79 rfl (by decide) (by decide) (by intros; omega) ?_
                                        intro v1144 h1145
                                        refine tr_goto 48 dX12_readAlp_82 (by decide) ?_
                                        refine tr_iload_n dX12_readAlp_48 rfl ?_
                                        refine q_iconst dX12_readAlp_49 (by decide) ?_
                                        intro v1146 h1147
                                        refine q_icmp_ge 85 dX12_readAlp_50 (by decide) (fun h1148 => ?_) (fun h1148 => ?_)
                                        · skip
                                          exfalso; omega
                                        · skip
                                          refine tr_iload_n dX12_readAlp_53 rfl ?_
                                          refine q_if_le 63 dX12_readAlp_54 (by decide) (fun h1149 => ?_) (fun h1149 => ?_)
                                          · skip
                                            exfalso; omega
                                          · skip
                                            refine tr_aload_n dX12_readAlp_57 rfl ?_
                                            refine q_bipush dX12_readAlp_58 (by decide +kernel) ?_
                                            intro v1150 h1151
                                            refine q_callVv hE (M' := mX12_needsSign) (as := [_]) dX12_readAlp_60 lk12_257 inX12_needsSign seX12_needsSign myX12_needsSign (by decide) ⟨by decide, by decide⟩ rfl (kR15 hS1136.1 ta0) (Nat.le_of_ble_eq_true rfl) rfl rfl (by decide) (by decide) (k_X12_needsSign hS1136.1 ta0) ?_
                                            rintro cn' K' N' I1152 R1153 L1154 ⟨rfl, rfl, rfl, rfl, g1155, w1157, -⟩
                                            have hS1158 := hS1136.tr g1155 (by decide +kernel) (by decide +kernel)
                                            have c1159 : I1152 a1 0 = v29 := (g1155.cell ta1 (by decide +kernel)).trans c1139
                                            have c1160 : I1152 a1 1 = v33 := (g1155.cell ta1 (by decide +kernel)).trans c1140
                                            have ov1161 := w1157.over (by rw [c1141]; omega)
                                            obtain ⟨v1162, c1163⟩ : ∃ v, I1152 a0 9 = v := ⟨_, rfl⟩
                                            have b1164 := iv15_9 hS1158.1 ta0 c1163
                                            obtain ⟨v1165, c1166⟩ : ∃ v, I1152 a0 13 = v := ⟨_, rfl⟩
                                            obtain ⟨v1167, c1168⟩ : ∃ v, I1152 a0 14 = v := ⟨_, rfl⟩
                                            (try rw [c1163] at ov1161)
                                            (try rw [c1166] at ov1161)
                                            (try rw [c1168] at ov1161)
                                            (try rw [c1141] at ov1161)
                                            (try rw [c1142] at ov1161)
                                            (try rw [c1143] at ov1161)
                                            refine tr_aload_n dX12_readAlp_63 rfl ?_
                                            refine tr_getR dX12_readAlp_64 fl12_188 (kR15 hS1158.1 ta0) d2 ?_
                                            refine tr_getR dX12_readAlp_67 fl12_260 (kR14 hS1158.1 ta1) d306 ?_
                                            refine tr_iload_n dX12_readAlp_70 rfl ?_
                                            refine tr_aload_n dX12_readAlp_71 rfl ?_
                                            refine q_iconst dX12_readAlp_72 (by decide) ?_
                                            intro v1169 h1170
                                            refine q_bipush dX12_readAlp_73 (by decide +kernel) ?_
                                            intro v1171 h1172
                                            refine q_callVi hE (M' := mX12_readWhole) (as := [_, _]) dX12_readAlp_75 lk12_161 inX12_readWhole seX12_readWhole myX12_readWhole (by decide) ⟨by decide, by decide⟩ rfl (kR15 hS1158.1 ta0) (Nat.le_of_ble_eq_true rfl) rfl rfl (by decide) (by decide) (k_X12_readWhole hS1158.1 ta0) ?_
                                            rintro v1177 cn' K' N' I1173 R1174 L1175 ⟨rfl, rfl, rfl, rfl, g1176, p1178, w1179, -⟩
                                            have hS1180 := hS1158.tr g1176 (by decide +kernel) (by decide +kernel)
                                            have c1181 : I1173 a1 0 = v29 := (g1176.cell ta1 (by decide +kernel)).trans c1159
                                            have c1182 : I1173 a1 1 = v33 := (g1176.cell ta1 (by decide +kernel)).trans c1160
                                            have b1183 : 0 ≤ v1177.toInt ∧ v1177.toInt ≤ 99 := by omega
                                            clear p1178
                                            have ov1184 := w1179.over (by rw [c1163]; omega)
                                            obtain ⟨v1185, c1186⟩ : ∃ v, I1173 a0 9 = v := ⟨_, rfl⟩
                                            have b1187 := iv15_9 hS1180.1 ta0 c1186
                                            obtain ⟨v1188, c1189⟩ : ∃ v, I1173 a0 13 = v := ⟨_, rfl⟩
                                            obtain ⟨v1190, c1191⟩ : ∃ v, I1173 a0 14 = v := ⟨_, rfl⟩
                                            (try rw [c1186] at ov1184)
                                            (try rw [c1189] at ov1184)
                                            (try rw [c1191] at ov1184)
                                            (try rw [c1163] at ov1184)
                                            (try rw [c1166] at ov1184)
                                            (try rw [c1168] at ov1184)
                                            refine q_iast dX12_readAlp_78 (kR53 hS1180.1 ta305) (ti_in (nR53 hS1180.1 ta305) (by omega) (by omega)) hS1180 ta305 (iokF rfl) rfl (by rfl) ?_
                                            intro I1192 hS1193 e1195 f1194
                                            have c1196 : I1192 a1 0 = v29 := (f1194 _ _ (fun q => by have z := ta1; rw [q.1, ta305] at z; exact absurd z (by decide))).trans c1181
                                            have c1197 : I1192 a1 1 = v33 := (f1194 _ _ (fun q => by have z := ta1; rw [q.1, ta305] at z; exact absurd z (by decide))).trans c1182
                                            have c1198 : I1192 a0 9 = v1185 := (f1194 _ _ (fun q => by have z := ta0; rw [q.1, ta305] at z; exact absurd z (by decide))).trans c1186
                                            have c1199 : I1192 a0 13 = v1188 := (f1194 _ _ (fun q => by have z := ta0; rw [q.1, ta305] at z; exact absurd z (by decide))).trans c1189
                                            have c1200 : I1192 a0 14 = v1190 := (f1194 _ _ (fun q => by have z := ta0; rw [q.1, ta305] at z; exact absurd z (by decide))).trans c1191
                                            refine q_iincE dX12_readAlp_79 rfl (by decide) (by decide) (by intros; omega) ?_
                                            intro v1201 h1202
                                            refine tr_goto 48 dX12_readAlp_82 (by decide) ?_
                                            refine tr_iload_n dX12_readAlp_48 rfl ?_
                                            refine q_iconst dX12_readAlp_49 (by decide) ?_
                                            intro v1203 h1204
                                            refine q_icmp_ge 85 dX12_readAlp_50 (by decide) (fun h1205 => ?_) (fun h1205 => ?_)
                                            · skip
                                              refine tr_aload_n dX12_readAlp_85 rfl ?_
                                              refine q_getI dX12_readAlp_86 fl12_99 (kR15 hS1193.1 ta0) c1198 ?_
                                              refine q_iconst dX12_readAlp_89 (by decide) ?_
                                              intro v1206 h1207
                                              refine q_icmp_ne 94 dX12_readAlp_90 (by decide) (fun h1208 => ?_) (fun h1208 => ?_)
                                              · skip
                                                exfalso; omega
                                              · skip
                                                have eF := hF.eq
                                                have eP := hP.eq
                                                obtain ⟨v1209, c1210⟩ : ∃ v, I1192 a0 10 = v := ⟨_, rfl⟩
                                                have b1211 := iv15_10 hS1193.1 ta0 c1210
                                                obtain ⟨v1212, c1213⟩ : ∃ v, I1192 a0 11 = v := ⟨_, rfl⟩
                                                obtain ⟨y1214, c1215⟩ : ∃ v, L1175 a0 15 = v := ⟨_, rfl⟩
                                                obtain ⟨v1216, c1217⟩ : ∃ v, I1192 a0 12 = v := ⟨_, rfl⟩
                                                obtain ⟨v1218, c1219⟩ : ∃ v, I1192 a0 8 = v := ⟨_, rfl⟩
                                                have b1220 := iv15_8 hS1193.1 ta0 c1219
                                                exact tr_vret hZ dX12_readAlp_93 rfl (by decide) (by decide) ⟨rfl, rfl, rfl, rfl, rfl, hS1193, (Or.inr (⟨(by (try rw [w106]); first | done | omega), (by (try rw [w106]); (try rw [c1198]); first | done | omega), (by (try rw [w106]); (try rw [c1199]); first | done | omega), (by (try rw [w106]); (try rw [c1200]); first | done | omega), trivial⟩)), trivial⟩
                                            · skip
                                              exfalso; omega
                                    · skip
                                      obtain ⟨v1221, c1222⟩ : ∃ v, I632 a0 9 = v := ⟨_, rfl⟩
                                      have b1223 := iv15_9 hS640.1 ta0 c1222
                                      rw [c1222] at p654
                                      obtain ⟨v1224, c1225⟩ : ∃ v, I632 a0 13 = v := ⟨_, rfl⟩
                                      rw [c1225] at p655
                                      obtain ⟨v1226, c1227⟩ : ∃ v, I632 a0 14 = v := ⟨_, rfl⟩
                                      rw [c1227] at p656
                                      replace hF := hF.pos (by omega)
                                      replace hP := hP.pos (by omega)
                                      refine tr_aload_n dX12_readAlp_63 rfl ?_
                                      refine tr_getR dX12_readAlp_64 fl12_188 (kR15 hS640.1 ta0) d2 ?_
                                      refine tr_getR dX12_readAlp_67 fl12_260 (kR14 hS640.1 ta1) d306 ?_
                                      refine tr_iload_n dX12_readAlp_70 rfl ?_
                                      refine tr_aload_n dX12_readAlp_71 rfl ?_
                                      refine q_iconst dX12_readAlp_72 (by decide) ?_
                                      intro v1228 h1229
                                      refine q_bipush dX12_readAlp_73 (by decide +kernel) ?_
                                      intro v1230 h1231
                                      refine q_callVi hE (M' := mX12_readWhole) (as := [_, _]) dX12_readAlp_75 lk12_161 inX12_readWhole seX12_readWhole myX12_readWhole (by decide) ⟨by decide, by decide⟩ rfl (kR15 hS640.1 ta0) (Nat.le_of_ble_eq_true rfl) rfl rfl (by decide) (by decide) (k_X12_readWhole hS640.1 ta0) ?_
                                      rintro v1236 cn' K' N' I1232 R1233 L1234 ⟨rfl, rfl, rfl, rfl, g1235, p1237, w1238, -⟩
                                      have hS1239 := hS640.tr g1235 (by decide +kernel) (by decide +kernel)
                                      have c1240 : I1232 a1 0 = v29 := (g1235.cell ta1 (by decide +kernel)).trans c641
                                      have c1241 : I1232 a1 1 = v33 := (g1235.cell ta1 (by decide +kernel)).trans c642
                                      have b1242 : 0 ≤ v1236.toInt ∧ v1236.toInt ≤ 99 := by omega
                                      clear p1237
                                      have ov1243 := w1238.over (by rw [c1222]; omega)
                                      obtain ⟨v1244, c1245⟩ : ∃ v, I1232 a0 9 = v := ⟨_, rfl⟩
                                      have b1246 := iv15_9 hS1239.1 ta0 c1245
                                      obtain ⟨v1247, c1248⟩ : ∃ v, I1232 a0 13 = v := ⟨_, rfl⟩
                                      obtain ⟨v1249, c1250⟩ : ∃ v, I1232 a0 14 = v := ⟨_, rfl⟩
                                      (try rw [c1245] at ov1243)
                                      (try rw [c1248] at ov1243)
                                      (try rw [c1250] at ov1243)
                                      (try rw [c1222] at ov1243)
                                      (try rw [c1225] at ov1243)
                                      (try rw [c1227] at ov1243)
                                      refine q_iast dX12_readAlp_78 (kR53 hS1239.1 ta305) (ti_in (nR53 hS1239.1 ta305) (by omega) (by omega)) hS1239 ta305 (iokF rfl) rfl (by rfl) ?_
                                      intro I1251 hS1252 e1254 f1253
                                      have c1255 : I1251 a1 0 = v29 := (f1253 _ _ (fun q => by have z := ta1; rw [q.1, ta305] at z; exact absurd z (by decide))).trans c1240
                                      have c1256 : I1251 a1 1 = v33 := (f1253 _ _ (fun q => by have z := ta1; rw [q.1, ta305] at z; exact absurd z (by decide))).trans c1241
                                      have c1257 : I1251 a0 9 = v1244 := (f1253 _ _ (fun q => by have z := ta0; rw [q.1, ta305] at z; exact absurd z (by decide))).trans c1245
                                      have c1258 : I1251 a0 13 = v1247 := (f1253 _ _ (fun q => by have z := ta0; rw [q.1, ta305] at z; exact absurd z (by decide))).trans c1248
                                      have c1259 : I1251 a0 14 = v1249 := (f1253 _ _ (fun q => by have z := ta0; rw [q.1, ta305] at z; exact absurd z (by decide))).trans c1250
                                      refine q_iincE dX12_readAlp_79 rfl (by decide) (by decide) (by intros; omega) ?_
                                      intro v1260 h1261
                                      refine tr_goto 48 dX12_readAlp_82 (by decide) ?_
                                      refine tr_iload_n dX12_readAlp_48 rfl ?_
                                      refine q_iconst dX12_readAlp_49 (by decide) ?_
                                      intro v1262 h1263
                                      refine q_icmp_ge 85 dX12_readAlp_50 (by decide) (fun h1264 => ?_) (fun h1264 => ?_)
                                      · skip
                                        exfalso; omega
                                      · skip
                                        refine tr_iload_n dX12_readAlp_53 rfl ?_
                                        refine q_if_le 63 dX12_readAlp_54 (by decide) (fun h1265 => ?_) (fun h1265 => ?_)
                                        · skip
                                          exfalso; omega
                                        · skip
                                          refine tr_aload_n dX12_readAlp_57 rfl ?_
                                          refine q_bipush dX12_readAlp_58 (by decide +kernel) ?_
                                          intro v1266 h1267
                                          refine q_callVv hE (M' := mX12_needsSign) (as := [_]) dX12_readAlp_60 lk12_257 inX12_needsSign seX12_needsSign myX12_needsSign (by decide) ⟨by decide, by decide⟩ rfl (kR15 hS1252.1 ta0) (Nat.le_of_ble_eq_true rfl) rfl rfl (by decide) (by decide) (k_X12_needsSign hS1252.1 ta0) ?_
                                          rintro cn' K' N' I1268 R1269 L1270 ⟨rfl, rfl, rfl, rfl, g1271, w1273, -⟩
                                          have hS1274 := hS1252.tr g1271 (by decide +kernel) (by decide +kernel)
                                          have c1275 : I1268 a1 0 = v29 := (g1271.cell ta1 (by decide +kernel)).trans c1255
                                          have c1276 : I1268 a1 1 = v33 := (g1271.cell ta1 (by decide +kernel)).trans c1256
                                          have ov1277 := w1273.over (by rw [c1257]; omega)
                                          obtain ⟨v1278, c1279⟩ : ∃ v, I1268 a0 9 = v := ⟨_, rfl⟩
                                          have b1280 := iv15_9 hS1274.1 ta0 c1279
                                          obtain ⟨v1281, c1282⟩ : ∃ v, I1268 a0 13 = v := ⟨_, rfl⟩
                                          obtain ⟨v1283, c1284⟩ : ∃ v, I1268 a0 14 = v := ⟨_, rfl⟩
                                          (try rw [c1279] at ov1277)
                                          (try rw [c1282] at ov1277)
                                          (try rw [c1284] at ov1277)
                                          (try rw [c1257] at ov1277)
                                          (try rw [c1258] at ov1277)
                                          (try rw [c1259] at ov1277)
                                          refine tr_aload_n dX12_readAlp_63 rfl ?_
                                          refine tr_getR dX12_readAlp_64 fl12_188 (kR15 hS1274.1 ta0) d2 ?_
                                          refine tr_getR dX12_readAlp_67 fl12_260 (kR14 hS1274.1 ta1) d306 ?_
                                          refine tr_iload_n dX12_readAlp_70 rfl ?_
                                          refine tr_aload_n dX12_readAlp_71 rfl ?_
                                          refine q_iconst dX12_readAlp_72 (by decide) ?_
                                          intro v1285 h1286
                                          refine q_bipush dX12_readAlp_73 (by decide +kernel) ?_
                                          intro v1287 h1288
                                          refine q_callVi hE (M' := mX12_readWhole) (as := [_, _]) dX12_readAlp_75 lk12_161 inX12_readWhole seX12_readWhole myX12_readWhole (by decide) ⟨by decide, by decide⟩ rfl (kR15 hS1274.1 ta0) (Nat.le_of_ble_eq_true rfl) rfl rfl (by decide) (by decide) (k_X12_readWhole hS1274.1 ta0) ?_
                                          rintro v1293 cn' K' N' I1289 R1290 L1291 ⟨rfl, rfl, rfl, rfl, g1292, p1294, w1295, -⟩
                                          have hS1296 := hS1274.tr g1292 (by decide +kernel) (by decide +kernel)
                                          have c1297 : I1289 a1 0 = v29 := (g1292.cell ta1 (by decide +kernel)).trans c1275
                                          have c1298 : I1289 a1 1 = v33 := (g1292.cell ta1 (by decide +kernel)).trans c1276
                                          have b1299 : 0 ≤ v1293.toInt ∧ v1293.toInt ≤ 99 := by omega
                                          clear p1294
                                          have ov1300 := w1295.over (by rw [c1279]; omega)
                                          obtain ⟨v1301, c1302⟩ : ∃ v, I1289 a0 9 = v := ⟨_, rfl⟩
                                          have b1303 := iv15_9 hS1296.1 ta0 c1302
                                          obtain ⟨v1304, c1305⟩ : ∃ v, I1289 a0 13 = v := ⟨_, rfl⟩
                                          obtain ⟨v1306, c1307⟩ : ∃ v, I1289 a0 14 = v := ⟨_, rfl⟩
                                          (try rw [c1302] at ov1300)
                                          (try rw [c1305] at ov1300)
                                          (try rw [c1307] at ov1300)
                                          (try rw [c1279] at ov1300)
                                          (try rw [c1282] at ov1300)
                                          (try rw [c1284] at ov1300)
                                          refine q_iast dX12_readAlp_78 (kR53 hS1296.1 ta305) (ti_in (nR53 hS1296.1 ta305) (by omega) (by omega)) hS1296 ta305 (iokF rfl) rfl (by rfl) ?_
                                          intro I1308 hS1309 e1311 f1310
                                          have c1312 : I1308 a1 0 = v29 := (f1310 _ _ (fun q => by have z := ta1; rw [q.1, ta305] at z; exact absurd z (by decide))).trans c1297
                                          have c1313 : I1308 a1 1 = v33 := (f1310 _ _ (fun q => by have z := ta1; rw [q.1, ta305] at z; exact absurd z (by decide))).trans c1298
                                          have c1314 : I1308 a0 9 = v1301 := (f1310 _ _ (fun q => by have z := ta0; rw [q.1, ta305] at z; exact absurd z (by decide))).trans c1302
                                          have c1315 : I1308 a0 13 = v1304 := (f1310 _ _ (fun q => by have z := ta0; rw [q.1, ta305] at z; exact absurd z (by decide))).trans c1305
                                          have c1316 : I1308 a0 14 = v1306 := (f1310 _ _ (fun q => by have z := ta0; rw [q.1, ta305] at z; exact absurd z (by decide))).trans c1307
                                          refine q_iincE dX12_readAlp_79 rfl (by decide) (by decide) (by intros; omega) ?_
                                          intro v1317 h1318
                                          refine tr_goto 48 dX12_readAlp_82 (by decide) ?_
                                          refine tr_iload_n dX12_readAlp_48 rfl ?_
                                          refine q_iconst dX12_readAlp_49 (by decide) ?_
                                          intro v1319 h1320
                                          refine q_icmp_ge 85 dX12_readAlp_50 (by decide) (fun h1321 => ?_) (fun h1321 => ?_)
                                          · skip
                                            refine tr_aload_n dX12_readAlp_85 rfl ?_
                                            refine q_getI dX12_readAlp_86 fl12_99 (kR15 hS1309.1 ta0) c1314 ?_
                                            refine q_iconst dX12_readAlp_89 (by decide) ?_
                                            intro v1322 h1323
                                            refine q_icmp_ne 94 dX12_readAlp_90 (by decide) (fun h1324 => ?_) (fun h1324 => ?_)
                                            · skip
                                              exfalso; omega
                                            · skip
                                              have eF := hF.eq
                                              have eP := hP.eq
                                              obtain ⟨v1325, c1326⟩ : ∃ v, I1308 a0 10 = v := ⟨_, rfl⟩
                                              have b1327 := iv15_10 hS1309.1 ta0 c1326
                                              obtain ⟨v1328, c1329⟩ : ∃ v, I1308 a0 11 = v := ⟨_, rfl⟩
                                              obtain ⟨y1330, c1331⟩ : ∃ v, L1291 a0 15 = v := ⟨_, rfl⟩
                                              obtain ⟨v1332, c1333⟩ : ∃ v, I1308 a0 12 = v := ⟨_, rfl⟩
                                              obtain ⟨v1334, c1335⟩ : ∃ v, I1308 a0 8 = v := ⟨_, rfl⟩
                                              have b1336 := iv15_8 hS1309.1 ta0 c1335
                                              exact tr_vret hZ dX12_readAlp_93 rfl (by decide) (by decide) ⟨rfl, rfl, rfl, rfl, rfl, hS1309, (Or.inr (⟨(by (try rw [w106]); first | done | omega), (by (try rw [w106]); (try rw [c1314]); first | done | omega), (by (try rw [w106]); (try rw [c1315]); first | done | omega), (by (try rw [w106]); (try rw [c1316]); first | done | omega), trivial⟩)), trivial⟩
                                          · skip
                                            exfalso; omega
                              · skip
                                obtain ⟨v1337, c1338⟩ : ∃ v, I557 a0 9 = v := ⟨_, rfl⟩
                                have b1339 := iv15_9 hS565.1 ta0 c1338
                                rw [c1338] at p583
                                obtain ⟨v1340, c1341⟩ : ∃ v, I557 a0 13 = v := ⟨_, rfl⟩
                                rw [c1341] at p584
                                obtain ⟨v1342, c1343⟩ : ∃ v, I557 a0 14 = v := ⟨_, rfl⟩
                                rw [c1343] at p585
                                replace hF := hF.pos (by omega)
                                replace hP := hP.pos (by omega)
                                refine q_iast dX12_readAlp_78 (kR53 hS565.1 ta305) (ti_in (nR53 hS565.1 ta305) (by omega) (by omega)) hS565 ta305 (iokF rfl) rfl (by rfl) ?_
                                intro I1344 hS1345 e1347 f1346
                                have c1348 : I1344 a1 0 = v29 := (f1346 _ _ (fun q => by have z := ta1; rw [q.1, ta305] at z; exact absurd z (by decide))).trans c566
                                have c1349 : I1344 a1 1 = v33 := (f1346 _ _ (fun q => by have z := ta1; rw [q.1, ta305] at z; exact absurd z (by decide))).trans c567
                                have c1350 : I1344 a0 9 = v1337 := (f1346 _ _ (fun q => by have z := ta0; rw [q.1, ta305] at z; exact absurd z (by decide))).trans c1338
                                have c1351 : I1344 a0 13 = v1340 := (f1346 _ _ (fun q => by have z := ta0; rw [q.1, ta305] at z; exact absurd z (by decide))).trans c1341
                                have c1352 : I1344 a0 14 = v1342 := (f1346 _ _ (fun q => by have z := ta0; rw [q.1, ta305] at z; exact absurd z (by decide))).trans c1343
                                refine q_iincE dX12_readAlp_79 rfl (by decide) (by decide) (by intros; omega) ?_
                                intro v1353 h1354
                                refine tr_goto 48 dX12_readAlp_82 (by decide) ?_
                                refine tr_iload_n dX12_readAlp_48 rfl ?_
                                refine q_iconst dX12_readAlp_49 (by decide) ?_
                                intro v1355 h1356
                                refine q_icmp_ge 85 dX12_readAlp_50 (by decide) (fun h1357 => ?_) (fun h1357 => ?_)
                                · skip
                                  exfalso; omega
                                · skip
                                  refine tr_iload_n dX12_readAlp_53 rfl ?_
                                  refine q_if_le 63 dX12_readAlp_54 (by decide) (fun h1358 => ?_) (fun h1358 => ?_)
                                  · skip
                                    exfalso; omega
                                  · skip
                                    refine tr_aload_n dX12_readAlp_57 rfl ?_
                                    refine q_bipush dX12_readAlp_58 (by decide +kernel) ?_
                                    intro v1359 h1360
                                    refine q_callVv hE (M' := mX12_needsSign) (as := [_]) dX12_readAlp_60 lk12_257 inX12_needsSign seX12_needsSign myX12_needsSign (by decide) ⟨by decide, by decide⟩ rfl (kR15 hS1345.1 ta0) (Nat.le_of_ble_eq_true rfl) rfl rfl (by decide) (by decide) (k_X12_needsSign hS1345.1 ta0) ?_
                                    rintro cn' K' N' I1361 R1362 L1363 ⟨rfl, rfl, rfl, rfl, g1364, w1366, -⟩
                                    have hS1367 := hS1345.tr g1364 (by decide +kernel) (by decide +kernel)
                                    have c1368 : I1361 a1 0 = v29 := (g1364.cell ta1 (by decide +kernel)).trans c1348
                                    have c1369 : I1361 a1 1 = v33 := (g1364.cell ta1 (by decide +kernel)).trans c1349
                                    have ov1370 := w1366.over (by rw [c1350]; omega)
                                    obtain ⟨v1371, c1372⟩ : ∃ v, I1361 a0 9 = v := ⟨_, rfl⟩
                                    have b1373 := iv15_9 hS1367.1 ta0 c1372
                                    obtain ⟨v1374, c1375⟩ : ∃ v, I1361 a0 13 = v := ⟨_, rfl⟩
                                    obtain ⟨v1376, c1377⟩ : ∃ v, I1361 a0 14 = v := ⟨_, rfl⟩
                                    (try rw [c1372] at ov1370)
                                    (try rw [c1375] at ov1370)
                                    (try rw [c1377] at ov1370)
                                    (try rw [c1350] at ov1370)
                                    (try rw [c1351] at ov1370)
                                    (try rw [c1352] at ov1370)
                                    refine tr_aload_n dX12_readAlp_63 rfl ?_
                                    refine tr_getR dX12_readAlp_64 fl12_188 (kR15 hS1367.1 ta0) d2 ?_
                                    refine tr_getR dX12_readAlp_67 fl12_260 (kR14 hS1367.1 ta1) d306 ?_
                                    refine tr_iload_n dX12_readAlp_70 rfl ?_
                                    refine tr_aload_n dX12_readAlp_71 rfl ?_
                                    refine q_iconst dX12_readAlp_72 (by decide) ?_
                                    intro v1378 h1379
                                    refine q_bipush dX12_readAlp_73 (by decide +kernel) ?_
                                    intro v1380 h1381
                                    refine q_callVi hE (M' := mX12_readWhole) (as := [_, _]) dX12_readAlp_75 lk12_161 inX12_readWhole seX12_readWhole myX12_readWhole (by decide) ⟨by decide, by decide⟩ rfl (kR15 hS1367.1 ta0) (Nat.le_of_ble_eq_true rfl) rfl rfl (by decide) (by decide) (k_X12_readWhole hS1367.1 ta0) ?_
                                    rintro v1386 cn' K' N' I1382 R1383 L1384 ⟨rfl, rfl, rfl, rfl, g1385, p1387, w1388, -⟩
                                    have hS1389 := hS1367.tr g1385 (by decide +kernel) (by decide +kernel)
                                    have c1390 : I1382 a1 0 = v29 := (g1385.cell ta1 (by decide +kernel)).trans c1368
                                    have c1391 : I1382 a1 1 = v33 := (g1385.cell ta1 (by decide +kernel)).trans c1369
                                    have b1392 : 0 ≤ v1386.toInt ∧ v1386.toInt ≤ 99 := by omega
                                    clear p1387
                                    have ov1393 := w1388.over (by rw [c1372]; omega)
                                    obtain ⟨v1394, c1395⟩ : ∃ v, I1382 a0 9 = v := ⟨_, rfl⟩
                                    have b1396 := iv15_9 hS1389.1 ta0 c1395
                                    obtain ⟨v1397, c1398⟩ : ∃ v, I1382 a0 13 = v := ⟨_, rfl⟩
                                    obtain ⟨v1399, c1400⟩ : ∃ v, I1382 a0 14 = v := ⟨_, rfl⟩
                                    (try rw [c1395] at ov1393)
                                    (try rw [c1398] at ov1393)
                                    (try rw [c1400] at ov1393)
                                    (try rw [c1372] at ov1393)
                                    (try rw [c1375] at ov1393)
                                    (try rw [c1377] at ov1393)
                                    refine q_iast dX12_readAlp_78 (kR53 hS1389.1 ta305) (ti_in (nR53 hS1389.1 ta305) (by omega) (by omega)) hS1389 ta305 (iokF rfl) rfl (by rfl) ?_
                                    intro I1401 hS1402 e1404 f1403
                                    have c1405 : I1401 a1 0 = v29 := (f1403 _ _ (fun q => by have z := ta1; rw [q.1, ta305] at z; exact absurd z (by decide))).trans c1390
                                    have c1406 : I1401 a1 1 = v33 := (f1403 _ _ (fun q => by have z := ta1; rw [q.1, ta305] at z; exact absurd z (by decide))).trans c1391
                                    have c1407 : I1401 a0 9 = v1394 := (f1403 _ _ (fun q => by have z := ta0; rw [q.1, ta305] at z; exact absurd z (by decide))).trans c1395
                                    have c1408 : I1401 a0 13 = v1397 := (f1403 _ _ (fun q => by have z := ta0; rw [q.1, ta305] at z; exact absurd z (by decide))).trans c1398
                                    have c1409 : I1401 a0 14 = v1399 := (f1403 _ _ (fun q => by have z := ta0; rw [q.1, ta305] at z; exact absurd z (by decide))).trans c1400
                                    refine q_iincE dX12_readAlp_79 rfl (by decide) (by decide) (by intros; omega) ?_
                                    intro v1410 h1411
                                    refine tr_goto 48 dX12_readAlp_82 (by decide) ?_
                                    refine tr_iload_n dX12_readAlp_48 rfl ?_
                                    refine q_iconst dX12_readAlp_49 (by decide) ?_
                                    intro v1412 h1413
                                    refine q_icmp_ge 85 dX12_readAlp_50 (by decide) (fun h1414 => ?_) (fun h1414 => ?_)
                                    · skip
                                      exfalso; omega
                                    · skip
                                      refine tr_iload_n dX12_readAlp_53 rfl ?_
                                      refine q_if_le 63 dX12_readAlp_54 (by decide) (fun h1415 => ?_) (fun h1415 => ?_)
                                      · skip
                                        exfalso; omega
                                      · skip
                                        refine tr_aload_n dX12_readAlp_57 rfl ?_
                                        refine q_bipush dX12_readAlp_58 (by decide +kernel) ?_
                                        intro v1416 h1417
                                        refine q_callVv hE (M' := mX12_needsSign) (as := [_]) dX12_readAlp_60 lk12_257 inX12_needsSign seX12_needsSign myX12_needsSign (by decide) ⟨by decide, by decide⟩ rfl (kR15 hS1402.1 ta0) (Nat.le_of_ble_eq_true rfl) rfl rfl (by decide) (by decide) (k_X12_needsSign hS1402.1 ta0) ?_
                                        rintro cn' K' N' I1418 R1419 L1420 ⟨rfl, rfl, rfl, rfl, g1421, w1423, -⟩
                                        have hS1424 := hS1402.tr g1421 (by decide +kernel) (by decide +kernel)
                                        have c1425 : I1418 a1 0 = v29 := (g1421.cell ta1 (by decide +kernel)).trans c1405
                                        have c1426 : I1418 a1 1 = v33 := (g1421.cell ta1 (by decide +kernel)).trans c1406
                                        have ov1427 := w1423.over (by rw [c1407]; omega)
                                        obtain ⟨v1428, c1429⟩ : ∃ v, I1418 a0 9 = v := ⟨_, rfl⟩
                                        have b1430 := iv15_9 hS1424.1 ta0 c1429
                                        obtain ⟨v1431, c1432⟩ : ∃ v, I1418 a0 13 = v := ⟨_, rfl⟩
                                        obtain ⟨v1433, c1434⟩ : ∃ v, I1418 a0 14 = v := ⟨_, rfl⟩
                                        (try rw [c1429] at ov1427)
                                        (try rw [c1432] at ov1427)
                                        (try rw [c1434] at ov1427)
                                        (try rw [c1407] at ov1427)
                                        (try rw [c1408] at ov1427)
                                        (try rw [c1409] at ov1427)
                                        refine tr_aload_n dX12_readAlp_63 rfl ?_
                                        refine tr_getR dX12_readAlp_64 fl12_188 (kR15 hS1424.1 ta0) d2 ?_
                                        refine tr_getR dX12_readAlp_67 fl12_260 (kR14 hS1424.1 ta1) d306 ?_
                                        refine tr_iload_n dX12_readAlp_70 rfl ?_
                                        refine tr_aload_n dX12_readAlp_71 rfl ?_
                                        refine q_iconst dX12_readAlp_72 (by decide) ?_
                                        intro v1435 h1436
                                        refine q_bipush dX12_readAlp_73 (by decide +kernel) ?_
                                        intro v1437 h1438
                                        refine q_callVi hE (M' := mX12_readWhole) (as := [_, _]) dX12_readAlp_75 lk12_161 inX12_readWhole seX12_readWhole myX12_readWhole (by decide) ⟨by decide, by decide⟩ rfl (kR15 hS1424.1 ta0) (Nat.le_of_ble_eq_true rfl) rfl rfl (by decide) (by decide) (k_X12_readWhole hS1424.1 ta0) ?_
                                        rintro v1443 cn' K' N' I1439 R1440 L1441 ⟨rfl, rfl, rfl, rfl, g1442, p1444, w1445, -⟩
                                        have hS1446 := hS1424.tr g1442 (by decide +kernel) (by decide +kernel)
                                        have c1447 : I1439 a1 0 = v29 := (g1442.cell ta1 (by decide +kernel)).trans c1425
                                        have c1448 : I1439 a1 1 = v33 := (g1442.cell ta1 (by decide +kernel)).trans c1426
                                        have b1449 : 0 ≤ v1443.toInt ∧ v1443.toInt ≤ 99 := by omega
                                        clear p1444
                                        have ov1450 := w1445.over (by rw [c1429]; omega)
                                        obtain ⟨v1451, c1452⟩ : ∃ v, I1439 a0 9 = v := ⟨_, rfl⟩
                                        have b1453 := iv15_9 hS1446.1 ta0 c1452
                                        obtain ⟨v1454, c1455⟩ : ∃ v, I1439 a0 13 = v := ⟨_, rfl⟩
                                        obtain ⟨v1456, c1457⟩ : ∃ v, I1439 a0 14 = v := ⟨_, rfl⟩
                                        (try rw [c1452] at ov1450)
                                        (try rw [c1455] at ov1450)
                                        (try rw [c1457] at ov1450)
                                        (try rw [c1429] at ov1450)
                                        (try rw [c1432] at ov1450)
                                        (try rw [c1434] at ov1450)
                                        refine q_iast dX12_readAlp_78 (kR53 hS1446.1 ta305) (ti_in (nR53 hS1446.1 ta305) (by omega) (by omega)) hS1446 ta305 (iokF rfl) rfl (by rfl) ?_
                                        intro I1458 hS1459 e1461 f1460
                                        have c1462 : I1458 a1 0 = v29 := (f1460 _ _ (fun q => by have z := ta1; rw [q.1, ta305] at z; exact absurd z (by decide))).trans c1447
                                        have c1463 : I1458 a1 1 = v33 := (f1460 _ _ (fun q => by have z := ta1; rw [q.1, ta305] at z; exact absurd z (by decide))).trans c1448
                                        have c1464 : I1458 a0 9 = v1451 := (f1460 _ _ (fun q => by have z := ta0; rw [q.1, ta305] at z; exact absurd z (by decide))).trans c1452
                                        have c1465 : I1458 a0 13 = v1454 := (f1460 _ _ (fun q => by have z := ta0; rw [q.1, ta305] at z; exact absurd z (by decide))).trans c1455
                                        have c1466 : I1458 a0 14 = v1456 := (f1460 _ _ (fun q => by have z := ta0; rw [q.1, ta305] at z; exact absurd z (by decide))).trans c1457
                                        refine q_iincE dX12_readAlp_79 rfl (by decide) (by decide) (by intros; omega) ?_
                                        intro v1467 h1468
                                        refine tr_goto 48 dX12_readAlp_82 (by decide) ?_
                                        refine tr_iload_n dX12_readAlp_48 rfl ?_
                                        refine q_iconst dX12_readAlp_49 (by decide) ?_
                                        intro v1469 h1470
                                        refine q_icmp_ge 85 dX12_readAlp_50 (by decide) (fun h1471 => ?_) (fun h1471 => ?_)
                                        · skip
                                          refine tr_aload_n dX12_readAlp_85 rfl ?_
                                          refine q_getI dX12_readAlp_86 fl12_99 (kR15 hS1459.1 ta0) c1464 ?_
                                          refine q_iconst dX12_readAlp_89 (by decide) ?_
                                          intro v1472 h1473
                                          refine q_icmp_ne 94 dX12_readAlp_90 (by decide) (fun h1474 => ?_) (fun h1474 => ?_)
                                          · skip
                                            exfalso; omega
                                          · skip
                                            have eF := hF.eq
                                            have eP := hP.eq
                                            obtain ⟨v1475, c1476⟩ : ∃ v, I1458 a0 10 = v := ⟨_, rfl⟩
                                            have b1477 := iv15_10 hS1459.1 ta0 c1476
                                            obtain ⟨v1478, c1479⟩ : ∃ v, I1458 a0 11 = v := ⟨_, rfl⟩
                                            obtain ⟨y1480, c1481⟩ : ∃ v, L1441 a0 15 = v := ⟨_, rfl⟩
                                            obtain ⟨v1482, c1483⟩ : ∃ v, I1458 a0 12 = v := ⟨_, rfl⟩
                                            obtain ⟨v1484, c1485⟩ : ∃ v, I1458 a0 8 = v := ⟨_, rfl⟩
                                            have b1486 := iv15_8 hS1459.1 ta0 c1485
                                            exact tr_vret hZ dX12_readAlp_93 rfl (by decide) (by decide) ⟨rfl, rfl, rfl, rfl, rfl, hS1459, (Or.inr (⟨(by (try rw [w106]); first | done | omega), (by (try rw [w106]); (try rw [c1464]); first | done | omega), (by (try rw [w106]); (try rw [c1465]); first | done | omega), (by (try rw [w106]); (try rw [c1466]); first | done | omega), trivial⟩)), trivial⟩
                                        · skip
                                          exfalso; omega
                              · skip
                                obtain ⟨v1487, c1488⟩ : ∃ v, I557 a0 9 = v := ⟨_, rfl⟩
                                have b1489 := iv15_9 hS565.1 ta0 c1488
                                rw [c1488] at p589
                                obtain ⟨v1490, c1491⟩ : ∃ v, I557 a0 13 = v := ⟨_, rfl⟩
                                rw [c1491] at p590
                                obtain ⟨v1492, c1493⟩ : ∃ v, I557 a0 14 = v := ⟨_, rfl⟩
                                rw [c1493] at p591
                                replace hF := hF.neg (by omega)
                                replace hP := hP.neg (by omega)
                                replace hF := hF.pos (by omega)
                                replace hP := hP.pos (by omega)
                                refine q_iast dX12_readAlp_78 (kR53 hS565.1 ta305) (ti_in (nR53 hS565.1 ta305) (by omega) (by omega)) hS565 ta305 (iokF rfl) rfl (by rfl) ?_
                                intro I1494 hS1495 e1497 f1496
                                have c1498 : I1494 a1 0 = v29 := (f1496 _ _ (fun q => by have z := ta1; rw [q.1, ta305] at z; exact absurd z (by decide))).trans c566
                                have c1499 : I1494 a1 1 = v33 := (f1496 _ _ (fun q => by have z := ta1; rw [q.1, ta305] at z; exact absurd z (by decide))).trans c567
                                have c1500 : I1494 a0 9 = v1487 := (f1496 _ _ (fun q => by have z := ta0; rw [q.1, ta305] at z; exact absurd z (by decide))).trans c1488
                                have c1501 : I1494 a0 13 = v1490 := (f1496 _ _ (fun q => by have z := ta0; rw [q.1, ta305] at z; exact absurd z (by decide))).trans c1491
                                have c1502 : I1494 a0 14 = v1492 := (f1496 _ _ (fun q => by have z := ta0; rw [q.1, ta305] at z; exact absurd z (by decide))).trans c1493
                                refine q_iincE dX12_readAlp_79 rfl (by decide) (by decide) (by intros; omega) ?_
                                intro v1503 h1504
                                refine tr_goto 48 dX12_readAlp_82 (by decide) ?_
                                refine tr_iload_n dX12_readAlp_48 rfl ?_
                                refine q_iconst dX12_readAlp_49 (by decide) ?_
                                intro v1505 h1506
                                refine q_icmp_ge 85 dX12_readAlp_50 (by decide) (fun h1507 => ?_) (fun h1507 => ?_)
                                · skip
                                  exfalso; omega
                                · skip
                                  refine tr_iload_n dX12_readAlp_53 rfl ?_
                                  refine q_if_le 63 dX12_readAlp_54 (by decide) (fun h1508 => ?_) (fun h1508 => ?_)
                                  · skip
                                    exfalso; omega
                                  · skip
                                    refine tr_aload_n dX12_readAlp_57 rfl ?_
                                    refine q_bipush dX12_readAlp_58 (by decide +kernel) ?_
                                    intro v1509 h1510
                                    refine q_callVv hE (M' := mX12_needsSign) (as := [_]) dX12_readAlp_60 lk12_257 inX12_needsSign seX12_needsSign myX12_needsSign (by decide) ⟨by decide, by decide⟩ rfl (kR15 hS1495.1 ta0) (Nat.le_of_ble_eq_true rfl) rfl rfl (by decide) (by decide) (k_X12_needsSign hS1495.1 ta0) ?_
                                    rintro cn' K' N' I1511 R1512 L1513 ⟨rfl, rfl, rfl, rfl, g1514, w1516, -⟩
                                    have hS1517 := hS1495.tr g1514 (by decide +kernel) (by decide +kernel)
                                    have c1518 : I1511 a1 0 = v29 := (g1514.cell ta1 (by decide +kernel)).trans c1498
                                    have c1519 : I1511 a1 1 = v33 := (g1514.cell ta1 (by decide +kernel)).trans c1499
                                    have ov1520 := w1516.over (by rw [c1500]; omega)
                                    obtain ⟨v1521, c1522⟩ : ∃ v, I1511 a0 9 = v := ⟨_, rfl⟩
                                    have b1523 := iv15_9 hS1517.1 ta0 c1522
                                    obtain ⟨v1524, c1525⟩ : ∃ v, I1511 a0 13 = v := ⟨_, rfl⟩
                                    obtain ⟨v1526, c1527⟩ : ∃ v, I1511 a0 14 = v := ⟨_, rfl⟩
                                    (try rw [c1522] at ov1520)
                                    (try rw [c1525] at ov1520)
                                    (try rw [c1527] at ov1520)
                                    (try rw [c1500] at ov1520)
                                    (try rw [c1501] at ov1520)
                                    (try rw [c1502] at ov1520)
                                    refine tr_aload_n dX12_readAlp_63 rfl ?_
                                    refine tr_getR dX12_readAlp_64 fl12_188 (kR15 hS1517.1 ta0) d2 ?_
                                    refine tr_getR dX12_readAlp_67 fl12_260 (kR14 hS1517.1 ta1) d306 ?_
                                    refine tr_iload_n dX12_readAlp_70 rfl ?_
                                    refine tr_aload_n dX12_readAlp_71 rfl ?_
                                    refine q_iconst dX12_readAlp_72 (by decide) ?_
                                    intro v1528 h1529
                                    refine q_bipush dX12_readAlp_73 (by decide +kernel) ?_
                                    intro v1530 h1531
                                    refine q_callVi hE (M' := mX12_readWhole) (as := [_, _]) dX12_readAlp_75 lk12_161 inX12_readWhole seX12_readWhole myX12_readWhole (by decide) ⟨by decide, by decide⟩ rfl (kR15 hS1517.1 ta0) (Nat.le_of_ble_eq_true rfl) rfl rfl (by decide) (by decide) (k_X12_readWhole hS1517.1 ta0) ?_
                                    rintro v1536 cn' K' N' I1532 R1533 L1534 ⟨rfl, rfl, rfl, rfl, g1535, p1537, w1538, -⟩
                                    have hS1539 := hS1517.tr g1535 (by decide +kernel) (by decide +kernel)
                                    have c1540 : I1532 a1 0 = v29 := (g1535.cell ta1 (by decide +kernel)).trans c1518
                                    have c1541 : I1532 a1 1 = v33 := (g1535.cell ta1 (by decide +kernel)).trans c1519
                                    have b1542 : 0 ≤ v1536.toInt ∧ v1536.toInt ≤ 99 := by omega
                                    clear p1537
                                    have ov1543 := w1538.over (by rw [c1522]; omega)
                                    obtain ⟨v1544, c1545⟩ : ∃ v, I1532 a0 9 = v := ⟨_, rfl⟩
                                    have b1546 := iv15_9 hS1539.1 ta0 c1545
                                    obtain ⟨v1547, c1548⟩ : ∃ v, I1532 a0 13 = v := ⟨_, rfl⟩
                                    obtain ⟨v1549, c1550⟩ : ∃ v, I1532 a0 14 = v := ⟨_, rfl⟩
                                    (try rw [c1545] at ov1543)
                                    (try rw [c1548] at ov1543)
                                    (try rw [c1550] at ov1543)
                                    (try rw [c1522] at ov1543)
                                    (try rw [c1525] at ov1543)
                                    (try rw [c1527] at ov1543)
                                    refine q_iast dX12_readAlp_78 (kR53 hS1539.1 ta305) (ti_in (nR53 hS1539.1 ta305) (by omega) (by omega)) hS1539 ta305 (iokF rfl) rfl (by rfl) ?_
                                    intro I1551 hS1552 e1554 f1553
                                    have c1555 : I1551 a1 0 = v29 := (f1553 _ _ (fun q => by have z := ta1; rw [q.1, ta305] at z; exact absurd z (by decide))).trans c1540
                                    have c1556 : I1551 a1 1 = v33 := (f1553 _ _ (fun q => by have z := ta1; rw [q.1, ta305] at z; exact absurd z (by decide))).trans c1541
                                    have c1557 : I1551 a0 9 = v1544 := (f1553 _ _ (fun q => by have z := ta0; rw [q.1, ta305] at z; exact absurd z (by decide))).trans c1545
                                    have c1558 : I1551 a0 13 = v1547 := (f1553 _ _ (fun q => by have z := ta0; rw [q.1, ta305] at z; exact absurd z (by decide))).trans c1548
                                    have c1559 : I1551 a0 14 = v1549 := (f1553 _ _ (fun q => by have z := ta0; rw [q.1, ta305] at z; exact absurd z (by decide))).trans c1550
                                    refine q_iincE dX12_readAlp_79 rfl (by decide) (by decide) (by intros; omega) ?_
                                    intro v1560 h1561
                                    refine tr_goto 48 dX12_readAlp_82 (by decide) ?_
                                    refine tr_iload_n dX12_readAlp_48 rfl ?_
                                    refine q_iconst dX12_readAlp_49 (by decide) ?_
                                    intro v1562 h1563
                                    refine q_icmp_ge 85 dX12_readAlp_50 (by decide) (fun h1564 => ?_) (fun h1564 => ?_)
                                    · skip
                                      exfalso; omega
                                    · skip
                                      refine tr_iload_n dX12_readAlp_53 rfl ?_
                                      refine q_if_le 63 dX12_readAlp_54 (by decide) (fun h1565 => ?_) (fun h1565 => ?_)
                                      · skip
                                        exfalso; omega
                                      · skip
                                        refine tr_aload_n dX12_readAlp_57 rfl ?_
                                        refine q_bipush dX12_readAlp_58 (by decide +kernel) ?_
                                        intro v1566 h1567
                                        refine q_callVv hE (M' := mX12_needsSign) (as := [_]) dX12_readAlp_60 lk12_257 inX12_needsSign seX12_needsSign myX12_needsSign (by decide) ⟨by decide, by decide⟩ rfl (kR15 hS1552.1 ta0) (Nat.le_of_ble_eq_true rfl) rfl rfl (by decide) (by decide) (k_X12_needsSign hS1552.1 ta0) ?_
                                        rintro cn' K' N' I1568 R1569 L1570 ⟨rfl, rfl, rfl, rfl, g1571, w1573, -⟩
                                        have hS1574 := hS1552.tr g1571 (by decide +kernel) (by decide +kernel)
                                        have c1575 : I1568 a1 0 = v29 := (g1571.cell ta1 (by decide +kernel)).trans c1555
                                        have c1576 : I1568 a1 1 = v33 := (g1571.cell ta1 (by decide +kernel)).trans c1556
                                        have ov1577 := w1573.over (by rw [c1557]; omega)
                                        obtain ⟨v1578, c1579⟩ : ∃ v, I1568 a0 9 = v := ⟨_, rfl⟩
                                        have b1580 := iv15_9 hS1574.1 ta0 c1579
                                        obtain ⟨v1581, c1582⟩ : ∃ v, I1568 a0 13 = v := ⟨_, rfl⟩
                                        obtain ⟨v1583, c1584⟩ : ∃ v, I1568 a0 14 = v := ⟨_, rfl⟩
                                        (try rw [c1579] at ov1577)
                                        (try rw [c1582] at ov1577)
                                        (try rw [c1584] at ov1577)
                                        (try rw [c1557] at ov1577)
                                        (try rw [c1558] at ov1577)
                                        (try rw [c1559] at ov1577)
                                        refine tr_aload_n dX12_readAlp_63 rfl ?_
                                        refine tr_getR dX12_readAlp_64 fl12_188 (kR15 hS1574.1 ta0) d2 ?_
                                        refine tr_getR dX12_readAlp_67 fl12_260 (kR14 hS1574.1 ta1) d306 ?_
                                        refine tr_iload_n dX12_readAlp_70 rfl ?_
                                        refine tr_aload_n dX12_readAlp_71 rfl ?_
                                        refine q_iconst dX12_readAlp_72 (by decide) ?_
                                        intro v1585 h1586
                                        refine q_bipush dX12_readAlp_73 (by decide +kernel) ?_
                                        intro v1587 h1588
                                        refine q_callVi hE (M' := mX12_readWhole) (as := [_, _]) dX12_readAlp_75 lk12_161 inX12_readWhole seX12_readWhole myX12_readWhole (by decide) ⟨by decide, by decide⟩ rfl (kR15 hS1574.1 ta0) (Nat.le_of_ble_eq_true rfl) rfl rfl (by decide) (by decide) (k_X12_readWhole hS1574.1 ta0) ?_
                                        rintro v1593 cn' K' N' I1589 R1590 L1591 ⟨rfl, rfl, rfl, rfl, g1592, p1594, w1595, -⟩
                                        have hS1596 := hS1574.tr g1592 (by decide +kernel) (by decide +kernel)
                                        have c1597 : I1589 a1 0 = v29 := (g1592.cell ta1 (by decide +kernel)).trans c1575
                                        have c1598 : I1589 a1 1 = v33 := (g1592.cell ta1 (by decide +kernel)).trans c1576
                                        have b1599 : 0 ≤ v1593.toInt ∧ v1593.toInt ≤ 99 := by omega
                                        clear p1594
                                        have ov1600 := w1595.over (by rw [c1579]; omega)
                                        obtain ⟨v1601, c1602⟩ : ∃ v, I1589 a0 9 = v := ⟨_, rfl⟩
                                        have b1603 := iv15_9 hS1596.1 ta0 c1602
                                        obtain ⟨v1604, c1605⟩ : ∃ v, I1589 a0 13 = v := ⟨_, rfl⟩
                                        obtain ⟨v1606, c1607⟩ : ∃ v, I1589 a0 14 = v := ⟨_, rfl⟩
                                        (try rw [c1602] at ov1600)
                                        (try rw [c1605] at ov1600)
                                        (try rw [c1607] at ov1600)
                                        (try rw [c1579] at ov1600)
                                        (try rw [c1582] at ov1600)
                                        (try rw [c1584] at ov1600)
                                        refine q_iast dX12_readAlp_78 (kR53 hS1596.1 ta305) (ti_in (nR53 hS1596.1 ta305) (by omega) (by omega)) hS1596 ta305 (iokF rfl) rfl (by rfl) ?_
                                        intro I1608 hS1609 e1611 f1610
                                        have c1612 : I1608 a1 0 = v29 := (f1610 _ _ (fun q => by have z := ta1; rw [q.1, ta305] at z; exact absurd z (by decide))).trans c1597
                                        have c1613 : I1608 a1 1 = v33 := (f1610 _ _ (fun q => by have z := ta1; rw [q.1, ta305] at z; exact absurd z (by decide))).trans c1598
                                        have c1614 : I1608 a0 9 = v1601 := (f1610 _ _ (fun q => by have z := ta0; rw [q.1, ta305] at z; exact absurd z (by decide))).trans c1602
                                        have c1615 : I1608 a0 13 = v1604 := (f1610 _ _ (fun q => by have z := ta0; rw [q.1, ta305] at z; exact absurd z (by decide))).trans c1605
                                        have c1616 : I1608 a0 14 = v1606 := (f1610 _ _ (fun q => by have z := ta0; rw [q.1, ta305] at z; exact absurd z (by decide))).trans c1607
                                        refine q_iincE dX12_readAlp_79 rfl (by decide) (by decide) (by intros; omega) ?_
                                        intro v1617 h1618
                                        refine tr_goto 48 dX12_readAlp_82 (by decide) ?_
                                        refine tr_iload_n dX12_readAlp_48 rfl ?_
                                        refine q_iconst dX12_readAlp_49 (by decide) ?_
                                        intro v1619 h1620
                                        refine q_icmp_ge 85 dX12_readAlp_50 (by decide) (fun h1621 => ?_) (fun h1621 => ?_)
                                        · skip
                                          refine tr_aload_n dX12_readAlp_85 rfl ?_
                                          refine q_getI dX12_readAlp_86 fl12_99 (kR15 hS1609.1 ta0) c1614 ?_
                                          refine q_iconst dX12_readAlp_89 (by decide) ?_
                                          intro v1622 h1623
                                          refine q_icmp_ne 94 dX12_readAlp_90 (by decide) (fun h1624 => ?_) (fun h1624 => ?_)
                                          · skip
                                            exfalso; omega
                                          · skip
                                            have eF := hF.eq
                                            have eP := hP.eq
                                            obtain ⟨v1625, c1626⟩ : ∃ v, I1608 a0 10 = v := ⟨_, rfl⟩
                                            have b1627 := iv15_10 hS1609.1 ta0 c1626
                                            obtain ⟨v1628, c1629⟩ : ∃ v, I1608 a0 11 = v := ⟨_, rfl⟩
                                            obtain ⟨y1630, c1631⟩ : ∃ v, L1591 a0 15 = v := ⟨_, rfl⟩
                                            obtain ⟨v1632, c1633⟩ : ∃ v, I1608 a0 12 = v := ⟨_, rfl⟩
                                            obtain ⟨v1634, c1635⟩ : ∃ v, I1608 a0 8 = v := ⟨_, rfl⟩
                                            have b1636 := iv15_8 hS1609.1 ta0 c1635
                                            exact tr_vret hZ dX12_readAlp_93 rfl (by decide) (by decide) ⟨rfl, rfl, rfl, rfl, rfl, hS1609, (Or.inr (⟨(by (try rw [w106]); first | done | omega), (by (try rw [w106]); (try rw [c1614]); first | done | omega), (by (try rw [w106]); (try rw [c1615]); first | done | omega), (by (try rw [w106]); (try rw [c1616]); first | done | omega), trivial⟩)), trivial⟩
                                        · skip
                                          exfalso; omega
                            · skip
                              obtain ⟨v1637, c1638⟩ : ∃ v, I509 a0 9 = v := ⟨_, rfl⟩
                              have b1639 := iv15_9 hS517.1 ta0 c1638
                              rw [c1638] at p531
                              obtain ⟨v1640, c1641⟩ : ∃ v, I509 a0 13 = v := ⟨_, rfl⟩
                              rw [c1641] at p532
                              obtain ⟨v1642, c1643⟩ : ∃ v, I509 a0 14 = v := ⟨_, rfl⟩
                              rw [c1643] at p533
                              replace hF := hF.pos (by omega)
                              replace hP := hP.pos (by omega)
                              refine tr_aload_n dX12_readAlp_63 rfl ?_
                              refine tr_getR dX12_readAlp_64 fl12_188 (kR15 hS517.1 ta0) d2 ?_
                              refine tr_getR dX12_readAlp_67 fl12_260 (kR14 hS517.1 ta1) d306 ?_
                              refine tr_iload_n dX12_readAlp_70 rfl ?_
                              refine tr_aload_n dX12_readAlp_71 rfl ?_
                              refine q_iconst dX12_readAlp_72 (by decide) ?_
                              intro v1644 h1645
                              refine q_bipush dX12_readAlp_73 (by decide +kernel) ?_
                              intro v1646 h1647
                              refine q_callVi hE (M' := mX12_readWhole) (as := [_, _]) dX12_readAlp_75 lk12_161 inX12_readWhole seX12_readWhole myX12_readWhole (by decide) ⟨by decide, by decide⟩ rfl (kR15 hS517.1 ta0) (Nat.le_of_ble_eq_true rfl) rfl rfl (by decide) (by decide) (k_X12_readWhole hS517.1 ta0) ?_
                              rintro v1652 cn' K' N' I1648 R1649 L1650 ⟨rfl, rfl, rfl, rfl, g1651, p1653, w1654, -⟩
                              have hS1655 := hS517.tr g1651 (by decide +kernel) (by decide +kernel)
                              have c1656 : I1648 a1 0 = v29 := (g1651.cell ta1 (by decide +kernel)).trans c518
                              have c1657 : I1648 a1 1 = v33 := (g1651.cell ta1 (by decide +kernel)).trans c519
                              have b1658 : 0 ≤ v1652.toInt ∧ v1652.toInt ≤ 99 := by omega
                              clear p1653
                              have ov1659 := w1654.over (by rw [c1638]; omega)
                              obtain ⟨v1660, c1661⟩ : ∃ v, I1648 a0 9 = v := ⟨_, rfl⟩
                              have b1662 := iv15_9 hS1655.1 ta0 c1661
                              obtain ⟨v1663, c1664⟩ : ∃ v, I1648 a0 13 = v := ⟨_, rfl⟩
                              obtain ⟨v1665, c1666⟩ : ∃ v, I1648 a0 14 = v := ⟨_, rfl⟩
                              (try rw [c1661] at ov1659)
                              (try rw [c1664] at ov1659)
                              (try rw [c1666] at ov1659)
                              (try rw [c1638] at ov1659)
                              (try rw [c1641] at ov1659)
                              (try rw [c1643] at ov1659)
                              refine q_iast dX12_readAlp_78 (kR53 hS1655.1 ta305) (ti_in (nR53 hS1655.1 ta305) (by omega) (by omega)) hS1655 ta305 (iokF rfl) rfl (by rfl) ?_
                              intro I1667 hS1668 e1670 f1669
                              have c1671 : I1667 a1 0 = v29 := (f1669 _ _ (fun q => by have z := ta1; rw [q.1, ta305] at z; exact absurd z (by decide))).trans c1656
                              have c1672 : I1667 a1 1 = v33 := (f1669 _ _ (fun q => by have z := ta1; rw [q.1, ta305] at z; exact absurd z (by decide))).trans c1657
                              have c1673 : I1667 a0 9 = v1660 := (f1669 _ _ (fun q => by have z := ta0; rw [q.1, ta305] at z; exact absurd z (by decide))).trans c1661
                              have c1674 : I1667 a0 13 = v1663 := (f1669 _ _ (fun q => by have z := ta0; rw [q.1, ta305] at z; exact absurd z (by decide))).trans c1664
                              have c1675 : I1667 a0 14 = v1665 := (f1669 _ _ (fun q => by have z := ta0; rw [q.1, ta305] at z; exact absurd z (by decide))).trans c1666
                              refine q_iincE dX12_readAlp_79 rfl (by decide) (by decide) (by intros; omega) ?_
                              intro v1676 h1677
                              refine tr_goto 48 dX12_readAlp_82 (by decide) ?_
                              refine tr_iload_n dX12_readAlp_48 rfl ?_
                              refine q_iconst dX12_readAlp_49 (by decide) ?_
                              intro v1678 h1679
                              refine q_icmp_ge 85 dX12_readAlp_50 (by decide) (fun h1680 => ?_) (fun h1680 => ?_)
                              · skip
                                exfalso; omega
                              · skip
                                refine tr_iload_n dX12_readAlp_53 rfl ?_
                                refine q_if_le 63 dX12_readAlp_54 (by decide) (fun h1681 => ?_) (fun h1681 => ?_)
                                · skip
                                  exfalso; omega
                                · skip
                                  refine tr_aload_n dX12_readAlp_57 rfl ?_
                                  refine q_bipush dX12_readAlp_58 (by decide +kernel) ?_
                                  intro v1682 h1683
                                  refine q_callVv hE (M' := mX12_needsSign) (as := [_]) dX12_readAlp_60 lk12_257 inX12_needsSign seX12_needsSign myX12_needsSign (by decide) ⟨by decide, by decide⟩ rfl (kR15 hS1668.1 ta0) (Nat.le_of_ble_eq_true rfl) rfl rfl (by decide) (by decide) (k_X12_needsSign hS1668.1 ta0) ?_
                                  rintro cn' K' N' I1684 R1685 L1686 ⟨rfl, rfl, rfl, rfl, g1687, w1689, -⟩
                                  have hS1690 := hS1668.tr g1687 (by decide +kernel) (by decide +kernel)
                                  have c1691 : I1684 a1 0 = v29 := (g1687.cell ta1 (by decide +kernel)).trans c1671
                                  have c1692 : I1684 a1 1 = v33 := (g1687.cell ta1 (by decide +kernel)).trans c1672
                                  have ov1693 := w1689.over (by rw [c1673]; omega)
                                  obtain ⟨v1694, c1695⟩ : ∃ v, I1684 a0 9 = v := ⟨_, rfl⟩
                                  have b1696 := iv15_9 hS1690.1 ta0 c1695
                                  obtain ⟨v1697, c1698⟩ : ∃ v, I1684 a0 13 = v := ⟨_, rfl⟩
                                  obtain ⟨v1699, c1700⟩ : ∃ v, I1684 a0 14 = v := ⟨_, rfl⟩
                                  (try rw [c1695] at ov1693)
                                  (try rw [c1698] at ov1693)
                                  (try rw [c1700] at ov1693)
                                  (try rw [c1673] at ov1693)
                                  (try rw [c1674] at ov1693)
                                  (try rw [c1675] at ov1693)
                                  refine tr_aload_n dX12_readAlp_63 rfl ?_
                                  refine tr_getR dX12_readAlp_64 fl12_188 (kR15 hS1690.1 ta0) d2 ?_
                                  refine tr_getR dX12_readAlp_67 fl12_260 (kR14 hS1690.1 ta1) d306 ?_
                                  refine tr_iload_n dX12_readAlp_70 rfl ?_
                                  refine tr_aload_n dX12_readAlp_71 rfl ?_
                                  refine q_iconst dX12_readAlp_72 (by decide) ?_
                                  intro v1701 h1702
                                  refine q_bipush dX12_readAlp_73 (by decide +kernel) ?_
                                  intro v1703 h1704
                                  refine q_callVi hE (M' := mX12_readWhole) (as := [_, _]) dX12_readAlp_75 lk12_161 inX12_readWhole seX12_readWhole myX12_readWhole (by decide) ⟨by decide, by decide⟩ rfl (kR15 hS1690.1 ta0) (Nat.le_of_ble_eq_true rfl) rfl rfl (by decide) (by decide) (k_X12_readWhole hS1690.1 ta0) ?_
                                  rintro v1709 cn' K' N' I1705 R1706 L1707 ⟨rfl, rfl, rfl, rfl, g1708, p1710, w1711, -⟩
                                  have hS1712 := hS1690.tr g1708 (by decide +kernel) (by decide +kernel)
                                  have c1713 : I1705 a1 0 = v29 := (g1708.cell ta1 (by decide +kernel)).trans c1691
                                  have c1714 : I1705 a1 1 = v33 := (g1708.cell ta1 (by decide +kernel)).trans c1692
                                  have b1715 : 0 ≤ v1709.toInt ∧ v1709.toInt ≤ 99 := by omega
                                  clear p1710
                                  have ov1716 := w1711.over (by rw [c1695]; omega)
                                  obtain ⟨v1717, c1718⟩ : ∃ v, I1705 a0 9 = v := ⟨_, rfl⟩
                                  have b1719 := iv15_9 hS1712.1 ta0 c1718
                                  obtain ⟨v1720, c1721⟩ : ∃ v, I1705 a0 13 = v := ⟨_, rfl⟩
                                  obtain ⟨v1722, c1723⟩ : ∃ v, I1705 a0 14 = v := ⟨_, rfl⟩
                                  (try rw [c1718] at ov1716)
                                  (try rw [c1721] at ov1716)
                                  (try rw [c1723] at ov1716)
                                  (try rw [c1695] at ov1716)
                                  (try rw [c1698] at ov1716)
                                  (try rw [c1700] at ov1716)
                                  refine q_iast dX12_readAlp_78 (kR53 hS1712.1 ta305) (ti_in (nR53 hS1712.1 ta305) (by omega) (by omega)) hS1712 ta305 (iokF rfl) rfl (by rfl) ?_
                                  intro I1724 hS1725 e1727 f1726
                                  have c1728 : I1724 a1 0 = v29 := (f1726 _ _ (fun q => by have z := ta1; rw [q.1, ta305] at z; exact absurd z (by decide))).trans c1713
                                  have c1729 : I1724 a1 1 = v33 := (f1726 _ _ (fun q => by have z := ta1; rw [q.1, ta305] at z; exact absurd z (by decide))).trans c1714
                                  have c1730 : I1724 a0 9 = v1717 := (f1726 _ _ (fun q => by have z := ta0; rw [q.1, ta305] at z; exact absurd z (by decide))).trans c1718
                                  have c1731 : I1724 a0 13 = v1720 := (f1726 _ _ (fun q => by have z := ta0; rw [q.1, ta305] at z; exact absurd z (by decide))).trans c1721
                                  have c1732 : I1724 a0 14 = v1722 := (f1726 _ _ (fun q => by have z := ta0; rw [q.1, ta305] at z; exact absurd z (by decide))).trans c1723
                                  refine q_iincE dX12_readAlp_79 rfl (by decide) (by decide) (by intros; omega) ?_
                                  intro v1733 h1734
                                  refine tr_goto 48 dX12_readAlp_82 (by decide) ?_
                                  refine tr_iload_n dX12_readAlp_48 rfl ?_
                                  refine q_iconst dX12_readAlp_49 (by decide) ?_
                                  intro v1735 h1736
                                  refine q_icmp_ge 85 dX12_readAlp_50 (by decide) (fun h1737 => ?_) (fun h1737 => ?_)
                                  · skip
                                    exfalso; omega
                                  · skip
                                    refine tr_iload_n dX12_readAlp_53 rfl ?_
                                    refine q_if_le 63 dX12_readAlp_54 (by decide) (fun h1738 => ?_) (fun h1738 => ?_)
                                    · skip
                                      exfalso; omega
                                    · skip
                                      refine tr_aload_n dX12_readAlp_57 rfl ?_
                                      refine q_bipush dX12_readAlp_58 (by decide +kernel) ?_
                                      intro v1739 h1740
                                      refine q_callVv hE (M' := mX12_needsSign) (as := [_]) dX12_readAlp_60 lk12_257 inX12_needsSign seX12_needsSign myX12_needsSign (by decide) ⟨by decide, by decide⟩ rfl (kR15 hS1725.1 ta0) (Nat.le_of_ble_eq_true rfl) rfl rfl (by decide) (by decide) (k_X12_needsSign hS1725.1 ta0) ?_
                                      rintro cn' K' N' I1741 R1742 L1743 ⟨rfl, rfl, rfl, rfl, g1744, w1746, -⟩
                                      have hS1747 := hS1725.tr g1744 (by decide +kernel) (by decide +kernel)
                                      have c1748 : I1741 a1 0 = v29 := (g1744.cell ta1 (by decide +kernel)).trans c1728
                                      have c1749 : I1741 a1 1 = v33 := (g1744.cell ta1 (by decide +kernel)).trans c1729
                                      have ov1750 := w1746.over (by rw [c1730]; omega)
                                      obtain ⟨v1751, c1752⟩ : ∃ v, I1741 a0 9 = v := ⟨_, rfl⟩
                                      have b1753 := iv15_9 hS1747.1 ta0 c1752
                                      obtain ⟨v1754, c1755⟩ : ∃ v, I1741 a0 13 = v := ⟨_, rfl⟩
                                      obtain ⟨v1756, c1757⟩ : ∃ v, I1741 a0 14 = v := ⟨_, rfl⟩
                                      (try rw [c1752] at ov1750)
                                      (try rw [c1755] at ov1750)
                                      (try rw [c1757] at ov1750)
                                      (try rw [c1730] at ov1750)
                                      (try rw [c1731] at ov1750)
                                      (try rw [c1732] at ov1750)
                                      refine tr_aload_n dX12_readAlp_63 rfl ?_
                                      refine tr_getR dX12_readAlp_64 fl12_188 (kR15 hS1747.1 ta0) d2 ?_
                                      refine tr_getR dX12_readAlp_67 fl12_260 (kR14 hS1747.1 ta1) d306 ?_
                                      refine tr_iload_n dX12_readAlp_70 rfl ?_
                                      refine tr_aload_n dX12_readAlp_71 rfl ?_
                                      refine q_iconst dX12_readAlp_72 (by decide) ?_
                                      intro v1758 h1759
                                      refine q_bipush dX12_readAlp_73 (by decide +kernel) ?_
                                      intro v1760 h1761
                                      refine q_callVi hE (M' := mX12_readWhole) (as := [_, _]) dX12_readAlp_75 lk12_161 inX12_readWhole seX12_readWhole myX12_readWhole (by decide) ⟨by decide, by decide⟩ rfl (kR15 hS1747.1 ta0) (Nat.le_of_ble_eq_true rfl) rfl rfl (by decide) (by decide) (k_X12_readWhole hS1747.1 ta0) ?_
                                      rintro v1766 cn' K' N' I1762 R1763 L1764 ⟨rfl, rfl, rfl, rfl, g1765, p1767, w1768, -⟩
                                      have hS1769 := hS1747.tr g1765 (by decide +kernel) (by decide +kernel)
                                      have c1770 : I1762 a1 0 = v29 := (g1765.cell ta1 (by decide +kernel)).trans c1748
                                      have c1771 : I1762 a1 1 = v33 := (g1765.cell ta1 (by decide +kernel)).trans c1749
                                      have b1772 : 0 ≤ v1766.toInt ∧ v1766.toInt ≤ 99 := by omega
                                      clear p1767
                                      have ov1773 := w1768.over (by rw [c1752]; omega)
                                      obtain ⟨v1774, c1775⟩ : ∃ v, I1762 a0 9 = v := ⟨_, rfl⟩
                                      have b1776 := iv15_9 hS1769.1 ta0 c1775
                                      obtain ⟨v1777, c1778⟩ : ∃ v, I1762 a0 13 = v := ⟨_, rfl⟩
                                      obtain ⟨v1779, c1780⟩ : ∃ v, I1762 a0 14 = v := ⟨_, rfl⟩
                                      (try rw [c1775] at ov1773)
                                      (try rw [c1778] at ov1773)
                                      (try rw [c1780] at ov1773)
                                      (try rw [c1752] at ov1773)
                                      (try rw [c1755] at ov1773)
                                      (try rw [c1757] at ov1773)
                                      refine q_iast dX12_readAlp_78 (kR53 hS1769.1 ta305) (ti_in (nR53 hS1769.1 ta305) (by omega) (by omega)) hS1769 ta305 (iokF rfl) rfl (by rfl) ?_
                                      intro I1781 hS1782 e1784 f1783
                                      have c1785 : I1781 a1 0 = v29 := (f1783 _ _ (fun q => by have z := ta1; rw [q.1, ta305] at z; exact absurd z (by decide))).trans c1770
                                      have c1786 : I1781 a1 1 = v33 := (f1783 _ _ (fun q => by have z := ta1; rw [q.1, ta305] at z; exact absurd z (by decide))).trans c1771
                                      have c1787 : I1781 a0 9 = v1774 := (f1783 _ _ (fun q => by have z := ta0; rw [q.1, ta305] at z; exact absurd z (by decide))).trans c1775
                                      have c1788 : I1781 a0 13 = v1777 := (f1783 _ _ (fun q => by have z := ta0; rw [q.1, ta305] at z; exact absurd z (by decide))).trans c1778
                                      have c1789 : I1781 a0 14 = v1779 := (f1783 _ _ (fun q => by have z := ta0; rw [q.1, ta305] at z; exact absurd z (by decide))).trans c1780
                                      refine q_iincE dX12_readAlp_79 rfl (by decide) (by decide) (by intros; omega) ?_
                                      intro v1790 h1791
                                      refine tr_goto 48 dX12_readAlp_82 (by decide) ?_
                                      refine tr_iload_n dX12_readAlp_48 rfl ?_
                                      refine q_iconst dX12_readAlp_49 (by decide) ?_
                                      intro v1792 h1793
                                      refine q_icmp_ge 85 dX12_readAlp_50 (by decide) (fun h1794 => ?_) (fun h1794 => ?_)
                                      · skip
                                        refine tr_aload_n dX12_readAlp_85 rfl ?_
                                        refine q_getI dX12_readAlp_86 fl12_99 (kR15 hS1782.1 ta0) c1787 ?_
                                        refine q_iconst dX12_readAlp_89 (by decide) ?_
                                        intro v1795 h1796
                                        refine q_icmp_ne 94 dX12_readAlp_90 (by decide) (fun h1797 => ?_) (fun h1797 => ?_)
                                        · skip
                                          exfalso; omega
                                        · skip
                                          have eF := hF.eq
                                          have eP := hP.eq
                                          obtain ⟨v1798, c1799⟩ : ∃ v, I1781 a0 10 = v := ⟨_, rfl⟩
                                          have b1800 := iv15_10 hS1782.1 ta0 c1799
                                          obtain ⟨v1801, c1802⟩ : ∃ v, I1781 a0 11 = v := ⟨_, rfl⟩
                                          obtain ⟨y1803, c1804⟩ : ∃ v, L1764 a0 15 = v := ⟨_, rfl⟩
                                          obtain ⟨v1805, c1806⟩ : ∃ v, I1781 a0 12 = v := ⟨_, rfl⟩
                                          obtain ⟨v1807, c1808⟩ : ∃ v, I1781 a0 8 = v := ⟨_, rfl⟩
                                          have b1809 := iv15_8 hS1782.1 ta0 c1808
                                          exact tr_vret hZ dX12_readAlp_93 rfl (by decide) (by decide) ⟨rfl, rfl, rfl, rfl, rfl, hS1782, (Or.inr (⟨(by (try rw [w106]); first | done | omega), (by (try rw [w106]); (try rw [c1787]); first | done | omega), (by (try rw [w106]); (try rw [c1788]); first | done | omega), (by (try rw [w106]); (try rw [c1789]); first | done | omega), trivial⟩)), trivial⟩
                                      · skip
                                        exfalso; omega
                      · skip
                        obtain ⟨v1810, c1811⟩ : ∃ v, I434 a0 9 = v := ⟨_, rfl⟩
                        have b1812 := iv15_9 hS442.1 ta0 c1811
                        rw [c1811] at p460
                        obtain ⟨v1813, c1814⟩ : ∃ v, I434 a0 13 = v := ⟨_, rfl⟩
                        rw [c1814] at p461
                        obtain ⟨v1815, c1816⟩ : ∃ v, I434 a0 14 = v := ⟨_, rfl⟩
                        rw [c1816] at p462
                        replace hF := hF.pos (by omega)
                        replace hP := hP.pos (by omega)
                        refine q_iast dX12_readAlp_78 (kR53 hS442.1 ta305) (ti_in (nR53 hS442.1 ta305) (by omega) (by omega)) hS442 ta305 (iokF rfl) rfl (by rfl) ?_
                        intro I1817 hS1818 e1820 f1819
                        have c1821 : I1817 a1 0 = v29 := (f1819 _ _ (fun q => by have z := ta1; rw [q.1, ta305] at z; exact absurd z (by decide))).trans c443
                        have c1822 : I1817 a1 1 = v33 := (f1819 _ _ (fun q => by have z := ta1; rw [q.1, ta305] at z; exact absurd z (by decide))).trans c444
                        have c1823 : I1817 a0 9 = v1810 := (f1819 _ _ (fun q => by have z := ta0; rw [q.1, ta305] at z; exact absurd z (by decide))).trans c1811
                        have c1824 : I1817 a0 13 = v1813 := (f1819 _ _ (fun q => by have z := ta0; rw [q.1, ta305] at z; exact absurd z (by decide))).trans c1814
                        have c1825 : I1817 a0 14 = v1815 := (f1819 _ _ (fun q => by have z := ta0; rw [q.1, ta305] at z; exact absurd z (by decide))).trans c1816
                        refine q_iincE dX12_readAlp_79 rfl (by decide) (by decide) (by intros; omega) ?_
                        intro v1826 h1827
                        refine tr_goto 48 dX12_readAlp_82 (by decide) ?_
                        refine tr_iload_n dX12_readAlp_48 rfl ?_
                        refine q_iconst dX12_readAlp_49 (by decide) ?_
                        intro v1828 h1829
                        refine q_icmp_ge 85 dX12_readAlp_50 (by decide) (fun h1830 => ?_) (fun h1830 => ?_)
                        · skip
                          exfalso; omega
                        · skip
                          refine tr_iload_n dX12_readAlp_53 rfl ?_
                          refine q_if_le 63 dX12_readAlp_54 (by decide) (fun h1831 => ?_) (fun h1831 => ?_)
                          · skip
                            exfalso; omega
                          · skip
                            refine tr_aload_n dX12_readAlp_57 rfl ?_
                            refine q_bipush dX12_readAlp_58 (by decide +kernel) ?_
                            intro v1832 h1833
                            refine q_callVv hE (M' := mX12_needsSign) (as := [_]) dX12_readAlp_60 lk12_257 inX12_needsSign seX12_needsSign myX12_needsSign (by decide) ⟨by decide, by decide⟩ rfl (kR15 hS1818.1 ta0) (Nat.le_of_ble_eq_true rfl) rfl rfl (by decide) (by decide) (k_X12_needsSign hS1818.1 ta0) ?_
                            rintro cn' K' N' I1834 R1835 L1836 ⟨rfl, rfl, rfl, rfl, g1837, w1839, -⟩
                            have hS1840 := hS1818.tr g1837 (by decide +kernel) (by decide +kernel)
                            have c1841 : I1834 a1 0 = v29 := (g1837.cell ta1 (by decide +kernel)).trans c1821
                            have c1842 : I1834 a1 1 = v33 := (g1837.cell ta1 (by decide +kernel)).trans c1822
                            have ov1843 := w1839.over (by rw [c1823]; omega)
                            obtain ⟨v1844, c1845⟩ : ∃ v, I1834 a0 9 = v := ⟨_, rfl⟩
                            have b1846 := iv15_9 hS1840.1 ta0 c1845
                            obtain ⟨v1847, c1848⟩ : ∃ v, I1834 a0 13 = v := ⟨_, rfl⟩
                            obtain ⟨v1849, c1850⟩ : ∃ v, I1834 a0 14 = v := ⟨_, rfl⟩
                            (try rw [c1845] at ov1843)
                            (try rw [c1848] at ov1843)
                            (try rw [c1850] at ov1843)
                            (try rw [c1823] at ov1843)
                            (try rw [c1824] at ov1843)
                            (try rw [c1825] at ov1843)
                            refine tr_aload_n dX12_readAlp_63 rfl ?_
                            refine tr_getR dX12_readAlp_64 fl12_188 (kR15 hS1840.1 ta0) d2 ?_
                            refine tr_getR dX12_readAlp_67 fl12_260 (kR14 hS1840.1 ta1) d306 ?_
                            refine tr_iload_n dX12_readAlp_70 rfl ?_
                            refine tr_aload_n dX12_readAlp_71 rfl ?_
                            refine q_iconst dX12_readAlp_72 (by decide) ?_
                            intro v1851 h1852
                            refine q_bipush dX12_readAlp_73 (by decide +kernel) ?_
                            intro v1853 h1854
                            refine q_callVi hE (M' := mX12_readWhole) (as := [_, _]) dX12_readAlp_75 lk12_161 inX12_readWhole seX12_readWhole myX12_readWhole (by decide) ⟨by decide, by decide⟩ rfl (kR15 hS1840.1 ta0) (Nat.le_of_ble_eq_true rfl) rfl rfl (by decide) (by decide) (k_X12_readWhole hS1840.1 ta0) ?_
                            rintro v1859 cn' K' N' I1855 R1856 L1857 ⟨rfl, rfl, rfl, rfl, g1858, p1860, w1861, -⟩
                            have hS1862 := hS1840.tr g1858 (by decide +kernel) (by decide +kernel)
                            have c1863 : I1855 a1 0 = v29 := (g1858.cell ta1 (by decide +kernel)).trans c1841
                            have c1864 : I1855 a1 1 = v33 := (g1858.cell ta1 (by decide +kernel)).trans c1842
                            have b1865 : 0 ≤ v1859.toInt ∧ v1859.toInt ≤ 99 := by omega
                            clear p1860
                            have ov1866 := w1861.over (by rw [c1845]; omega)
                            obtain ⟨v1867, c1868⟩ : ∃ v, I1855 a0 9 = v := ⟨_, rfl⟩
                            have b1869 := iv15_9 hS1862.1 ta0 c1868
                            obtain ⟨v1870, c1871⟩ : ∃ v, I1855 a0 13 = v := ⟨_, rfl⟩
                            obtain ⟨v1872, c1873⟩ : ∃ v, I1855 a0 14 = v := ⟨_, rfl⟩
                            (try rw [c1868] at ov1866)
                            (try rw [c1871] at ov1866)
                            (try rw [c1873] at ov1866)
                            (try rw [c1845] at ov1866)
                            (try rw [c1848] at ov1866)
                            (try rw [c1850] at ov1866)
                            refine q_iast dX12_readAlp_78 (kR53 hS1862.1 ta305) (ti_in (nR53 hS1862.1 ta305) (by omega) (by omega)) hS1862 ta305 (iokF rfl) rfl (by rfl) ?_
                            intro I1874 hS1875 e1877 f1876
                            have c1878 : I1874 a1 0 = v29 := (f1876 _ _ (fun q => by have z := ta1; rw [q.1, ta305] at z; exact absurd z (by decide))).trans c1863
                            have c1879 : I1874 a1 1 = v33 := (f1876 _ _ (fun q => by have z := ta1; rw [q.1, ta305] at z; exact absurd z (by decide))).trans c1864
                            have c1880 : I1874 a0 9 = v1867 := (f1876 _ _ (fun q => by have z := ta0; rw [q.1, ta305] at z; exact absurd z (by decide))).trans c1868
                            have c1881 : I1874 a0 13 = v1870 := (f1876 _ _ (fun q => by have z := ta0; rw [q.1, ta305] at z; exact absurd z (by decide))).trans c1871
                            have c1882 : I1874 a0 14 = v1872 := (f1876 _ _ (fun q => by have z := ta0; rw [q.1, ta305] at z; exact absurd z (by decide))).trans c1873
                            refine q_iincE dX12_readAlp_79 rfl (by decide) (by decide) (by intros; omega) ?_
                            intro v1883 h1884
                            refine tr_goto 48 dX12_readAlp_82 (by decide) ?_
                            refine tr_iload_n dX12_readAlp_48 rfl ?_
                            refine q_iconst dX12_readAlp_49 (by decide) ?_
                            intro v1885 h1886
                            refine q_icmp_ge 85 dX12_readAlp_50 (by decide) (fun h1887 => ?_) (fun h1887 => ?_)
                            · skip
                              exfalso; omega
                            · skip
                              refine tr_iload_n dX12_readAlp_53 rfl ?_
                              refine q_if_le 63 dX12_readAlp_54 (by decide) (fun h1888 => ?_) (fun h1888 => ?_)
                              · skip
                                exfalso; omega
                              · skip
                                refine tr_aload_n dX12_readAlp_57 rfl ?_
                                refine q_bipush dX12_readAlp_58 (by decide +kernel) ?_
                                intro v1889 h1890
                                refine q_callVv hE (M' := mX12_needsSign) (as := [_]) dX12_readAlp_60 lk12_257 inX12_needsSign seX12_needsSign myX12_needsSign (by decide) ⟨by decide, by decide⟩ rfl (kR15 hS1875.1 ta0) (Nat.le_of_ble_eq_true rfl) rfl rfl (by decide) (by decide) (k_X12_needsSign hS1875.1 ta0) ?_
                                rintro cn' K' N' I1891 R1892 L1893 ⟨rfl, rfl, rfl, rfl, g1894, w1896, -⟩
                                have hS1897 := hS1875.tr g1894 (by decide +kernel) (by decide +kernel)
                                have c1898 : I1891 a1 0 = v29 := (g1894.cell ta1 (by decide +kernel)).trans c1878
                                have c1899 : I1891 a1 1 = v33 := (g1894.cell ta1 (by decide +kernel)).trans c1879
                                have ov1900 := w1896.over (by rw [c1880]; omega)
                                obtain ⟨v1901, c1902⟩ : ∃ v, I1891 a0 9 = v := ⟨_, rfl⟩
                                have b1903 := iv15_9 hS1897.1 ta0 c1902
                                obtain ⟨v1904, c1905⟩ : ∃ v, I1891 a0 13 = v := ⟨_, rfl⟩
                                obtain ⟨v1906, c1907⟩ : ∃ v, I1891 a0 14 = v := ⟨_, rfl⟩
                                (try rw [c1902] at ov1900)
                                (try rw [c1905] at ov1900)
                                (try rw [c1907] at ov1900)
                                (try rw [c1880] at ov1900)
                                (try rw [c1881] at ov1900)
                                (try rw [c1882] at ov1900)
                                refine tr_aload_n dX12_readAlp_63 rfl ?_
                                refine tr_getR dX12_readAlp_64 fl12_188 (kR15 hS1897.1 ta0) d2 ?_
                                refine tr_getR dX12_readAlp_67 fl12_260 (kR14 hS1897.1 ta1) d306 ?_
                                refine tr_iload_n dX12_readAlp_70 rfl ?_
                                refine tr_aload_n dX12_readAlp_71 rfl ?_
                                refine q_iconst dX12_readAlp_72 (by decide) ?_
                                intro v1908 h1909
                                refine q_bipush dX12_readAlp_73 (by decide +kernel) ?_
                                intro v1910 h1911
                                refine q_callVi hE (M' := mX12_readWhole) (as := [_, _]) dX12_readAlp_75 lk12_161 inX12_readWhole seX12_readWhole myX12_readWhole (by decide) ⟨by decide, by decide⟩ rfl (kR15 hS1897.1 ta0) (Nat.le_of_ble_eq_true rfl) rfl rfl (by decide) (by decide) (k_X12_readWhole hS1897.1 ta0) ?_
                                rintro v1916 cn' K' N' I1912 R1913 L1914 ⟨rfl, rfl, rfl, rfl, g1915, p1917, w1918, -⟩
                                have hS1919 := hS1897.tr g1915 (by decide +kernel) (by decide +kernel)
                                have c1920 : I1912 a1 0 = v29 := (g1915.cell ta1 (by decide +kernel)).trans c1898
                                have c1921 : I1912 a1 1 = v33 := (g1915.cell ta1 (by decide +kernel)).trans c1899
                                have b1922 : 0 ≤ v1916.toInt ∧ v1916.toInt ≤ 99 := by omega
                                clear p1917
                                have ov1923 := w1918.over (by rw [c1902]; omega)
                                obtain ⟨v1924, c1925⟩ : ∃ v, I1912 a0 9 = v := ⟨_, rfl⟩
                                have b1926 := iv15_9 hS1919.1 ta0 c1925
                                obtain ⟨v1927, c1928⟩ : ∃ v, I1912 a0 13 = v := ⟨_, rfl⟩
                                obtain ⟨v1929, c1930⟩ : ∃ v, I1912 a0 14 = v := ⟨_, rfl⟩
                                (try rw [c1925] at ov1923)
                                (try rw [c1928] at ov1923)
                                (try rw [c1930] at ov1923)
                                (try rw [c1902] at ov1923)
                                (try rw [c1905] at ov1923)
                                (try rw [c1907] at ov1923)
                                refine q_iast dX12_readAlp_78 (kR53 hS1919.1 ta305) (ti_in (nR53 hS1919.1 ta305) (by omega) (by omega)) hS1919 ta305 (iokF rfl) rfl (by rfl) ?_
                                intro I1931 hS1932 e1934 f1933
                                have c1935 : I1931 a1 0 = v29 := (f1933 _ _ (fun q => by have z := ta1; rw [q.1, ta305] at z; exact absurd z (by decide))).trans c1920
                                have c1936 : I1931 a1 1 = v33 := (f1933 _ _ (fun q => by have z := ta1; rw [q.1, ta305] at z; exact absurd z (by decide))).trans c1921
                                have c1937 : I1931 a0 9 = v1924 := (f1933 _ _ (fun q => by have z := ta0; rw [q.1, ta305] at z; exact absurd z (by decide))).trans c1925
                                have c1938 : I1931 a0 13 = v1927 := (f1933 _ _ (fun q => by have z := ta0; rw [q.1, ta305] at z; exact absurd z (by decide))).trans c1928
                                have c1939 : I1931 a0 14 = v1929 := (f1933 _ _ (fun q => by have z := ta0; rw [q.1, ta305] at z; exact absurd z (by decide))).trans c1930
                                refine q_iincE dX12_readAlp_79 rfl (by decide) (by decide) (by intros; omega) ?_
                                intro v1940 h1941
                                refine tr_goto 48 dX12_readAlp_82 (by decide) ?_
                                refine tr_iload_n dX12_readAlp_48 rfl ?_
                                refine q_iconst dX12_readAlp_49 (by decide) ?_
                                intro v1942 h1943
                                refine q_icmp_ge 85 dX12_readAlp_50 (by decide) (fun h1944 => ?_) (fun h1944 => ?_)
                                · skip
                                  exfalso; omega
                                · skip
                                  refine tr_iload_n dX12_readAlp_53 rfl ?_
                                  refine q_if_le 63 dX12_readAlp_54 (by decide) (fun h1945 => ?_) (fun h1945 => ?_)
                                  · skip
                                    exfalso; omega
                                  · skip
                                    refine tr_aload_n dX12_readAlp_57 rfl ?_
                                    refine q_bipush dX12_readAlp_58 (by decide +kernel) ?_
                                    intro v1946 h1947
                                    refine q_callVv hE (M' := mX12_needsSign) (as := [_]) dX12_readAlp_60 lk12_257 inX12_needsSign seX12_needsSign myX12_needsSign (by decide) ⟨by decide, by decide⟩ rfl (kR15 hS1932.1 ta0) (Nat.le_of_ble_eq_true rfl) rfl rfl (by decide) (by decide) (k_X12_needsSign hS1932.1 ta0) ?_
                                    rintro cn' K' N' I1948 R1949 L1950 ⟨rfl, rfl, rfl, rfl, g1951, w1953, -⟩
                                    have hS1954 := hS1932.tr g1951 (by decide +kernel) (by decide +kernel)
                                    have c1955 : I1948 a1 0 = v29 := (g1951.cell ta1 (by decide +kernel)).trans c1935
                                    have c1956 : I1948 a1 1 = v33 := (g1951.cell ta1 (by decide +kernel)).trans c1936
                                    have ov1957 := w1953.over (by rw [c1937]; omega)
                                    obtain ⟨v1958, c1959⟩ : ∃ v, I1948 a0 9 = v := ⟨_, rfl⟩
                                    have b1960 := iv15_9 hS1954.1 ta0 c1959
                                    obtain ⟨v1961, c1962⟩ : ∃ v, I1948 a0 13 = v := ⟨_, rfl⟩
                                    obtain ⟨v1963, c1964⟩ : ∃ v, I1948 a0 14 = v := ⟨_, rfl⟩
                                    (try rw [c1959] at ov1957)
                                    (try rw [c1962] at ov1957)
                                    (try rw [c1964] at ov1957)
                                    (try rw [c1937] at ov1957)
                                    (try rw [c1938] at ov1957)
                                    (try rw [c1939] at ov1957)
                                    refine tr_aload_n dX12_readAlp_63 rfl ?_
                                    refine tr_getR dX12_readAlp_64 fl12_188 (kR15 hS1954.1 ta0) d2 ?_
                                    refine tr_getR dX12_readAlp_67 fl12_260 (kR14 hS1954.1 ta1) d306 ?_
                                    refine tr_iload_n dX12_readAlp_70 rfl ?_
                                    refine tr_aload_n dX12_readAlp_71 rfl ?_
                                    refine q_iconst dX12_readAlp_72 (by decide) ?_
                                    intro v1965 h1966
                                    refine q_bipush dX12_readAlp_73 (by decide +kernel) ?_
                                    intro v1967 h1968
                                    refine q_callVi hE (M' := mX12_readWhole) (as := [_, _]) dX12_readAlp_75 lk12_161 inX12_readWhole seX12_readWhole myX12_readWhole (by decide) ⟨by decide, by decide⟩ rfl (kR15 hS1954.1 ta0) (Nat.le_of_ble_eq_true rfl) rfl rfl (by decide) (by decide) (k_X12_readWhole hS1954.1 ta0) ?_
                                    rintro v1973 cn' K' N' I1969 R1970 L1971 ⟨rfl, rfl, rfl, rfl, g1972, p1974, w1975, -⟩
                                    have hS1976 := hS1954.tr g1972 (by decide +kernel) (by decide +kernel)
                                    have c1977 : I1969 a1 0 = v29 := (g1972.cell ta1 (by decide +kernel)).trans c1955
                                    have c1978 : I1969 a1 1 = v33 := (g1972.cell ta1 (by decide +kernel)).trans c1956
                                    have b1979 : 0 ≤ v1973.toInt ∧ v1973.toInt ≤ 99 := by omega
                                    clear p1974
                                    have ov1980 := w1975.over (by rw [c1959]; omega)
                                    obtain ⟨v1981, c1982⟩ : ∃ v, I1969 a0 9 = v := ⟨_, rfl⟩
                                    have b1983 := iv15_9 hS1976.1 ta0 c1982
                                    obtain ⟨v1984, c1985⟩ : ∃ v, I1969 a0 13 = v := ⟨_, rfl⟩
                                    obtain ⟨v1986, c1987⟩ : ∃ v, I1969 a0 14 = v := ⟨_, rfl⟩
                                    (try rw [c1982] at ov1980)
                                    (try rw [c1985] at ov1980)
                                    (try rw [c1987] at ov1980)
                                    (try rw [c1959] at ov1980)
                                    (try rw [c1962] at ov1980)
                                    (try rw [c1964] at ov1980)
                                    refine q_iast dX12_readAlp_78 (kR53 hS1976.1 ta305) (ti_in (nR53 hS1976.1 ta305) (by omega) (by omega)) hS1976 ta305 (iokF rfl) rfl (by rfl) ?_
                                    intro I1988 hS1989 e1991 f1990
                                    have c1992 : I1988 a1 0 = v29 := (f1990 _ _ (fun q => by have z := ta1; rw [q.1, ta305] at z; exact absurd z (by decide))).trans c1977
                                    have c1993 : I1988 a1 1 = v33 := (f1990 _ _ (fun q => by have z := ta1; rw [q.1, ta305] at z; exact absurd z (by decide))).trans c1978
                                    have c1994 : I1988 a0 9 = v1981 := (f1990 _ _ (fun q => by have z := ta0; rw [q.1, ta305] at z; exact absurd z (by decide))).trans c1982
                                    have c1995 : I1988 a0 13 = v1984 := (f1990 _ _ (fun q => by have z := ta0; rw [q.1, ta305] at z; exact absurd z (by decide))).trans c1985
                                    have c1996 : I1988 a0 14 = v1986 := (f1990 _ _ (fun q => by have z := ta0; rw [q.1, ta305] at z; exact absurd z (by decide))).trans c1987
                                    refine q_iincE dX12_readAlp_79 rfl (by decide) (by decide) (by intros; omega) ?_
                                    intro v1997 h1998
                                    refine tr_goto 48 dX12_readAlp_82 (by decide) ?_
                                    refine tr_iload_n dX12_readAlp_48 rfl ?_
                                    refine q_iconst dX12_readAlp_49 (by decide) ?_
                                    intro v1999 h2000
                                    refine q_icmp_ge 85 dX12_readAlp_50 (by decide) (fun h2001 => ?_) (fun h2001 => ?_)
                                    · skip
                                      refine tr_aload_n dX12_readAlp_85 rfl ?_
                                      refine q_getI dX12_readAlp_86 fl12_99 (kR15 hS1989.1 ta0) c1994 ?_
                                      refine q_iconst dX12_readAlp_89 (by decide) ?_
                                      intro v2002 h2003
                                      refine q_icmp_ne 94 dX12_readAlp_90 (by decide) (fun h2004 => ?_) (fun h2004 => ?_)
                                      · skip
                                        exfalso; omega
                                      · skip
                                        have eF := hF.eq
                                        have eP := hP.eq
                                        obtain ⟨v2005, c2006⟩ : ∃ v, I1988 a0 10 = v := ⟨_, rfl⟩
                                        have b2007 := iv15_10 hS1989.1 ta0 c2006
                                        obtain ⟨v2008, c2009⟩ : ∃ v, I1988 a0 11 = v := ⟨_, rfl⟩
                                        obtain ⟨y2010, c2011⟩ : ∃ v, L1971 a0 15 = v := ⟨_, rfl⟩
                                        obtain ⟨v2012, c2013⟩ : ∃ v, I1988 a0 12 = v := ⟨_, rfl⟩
                                        obtain ⟨v2014, c2015⟩ : ∃ v, I1988 a0 8 = v := ⟨_, rfl⟩
                                        have b2016 := iv15_8 hS1989.1 ta0 c2015
                                        exact tr_vret hZ dX12_readAlp_93 rfl (by decide) (by decide) ⟨rfl, rfl, rfl, rfl, rfl, hS1989, (Or.inr (⟨(by (try rw [w106]); first | done | omega), (by (try rw [w106]); (try rw [c1994]); first | done | omega), (by (try rw [w106]); (try rw [c1995]); first | done | omega), (by (try rw [w106]); (try rw [c1996]); first | done | omega), trivial⟩)), trivial⟩
                                    · skip
                                      exfalso; omega
                      · skip
                        obtain ⟨v2017, c2018⟩ : ∃ v, I434 a0 9 = v := ⟨_, rfl⟩
                        have b2019 := iv15_9 hS442.1 ta0 c2018
                        rw [c2018] at p466
                        obtain ⟨v2020, c2021⟩ : ∃ v, I434 a0 13 = v := ⟨_, rfl⟩
                        rw [c2021] at p467
                        obtain ⟨v2022, c2023⟩ : ∃ v, I434 a0 14 = v := ⟨_, rfl⟩
                        rw [c2023] at p468
                        replace hF := hF.neg (by omega)
                        replace hP := hP.neg (by omega)
                        replace hF := hF.pos (by omega)
                        replace hP := hP.pos (by omega)
                        refine q_iast dX12_readAlp_78 (kR53 hS442.1 ta305) (ti_in (nR53 hS442.1 ta305) (by omega) (by omega)) hS442 ta305 (iokF rfl) rfl (by rfl) ?_
                        intro I2024 hS2025 e2027 f2026
                        have c2028 : I2024 a1 0 = v29 := (f2026 _ _ (fun q => by have z := ta1; rw [q.1, ta305] at z; exact absurd z (by decide))).trans c443
                        have c2029 : I2024 a1 1 = v33 := (f2026 _ _ (fun q => by have z := ta1; rw [q.1, ta305] at z; exact absurd z (by decide))).trans c444
                        have c2030 : I2024 a0 9 = v2017 := (f2026 _ _ (fun q => by have z := ta0; rw [q.1, ta305] at z; exact absurd z (by decide))).trans c2018
                        have c2031 : I2024 a0 13 = v2020 := (f2026 _ _ (fun q => by have z := ta0; rw [q.1, ta305] at z; exact absurd z (by decide))).trans c2021
                        have c2032 : I2024 a0 14 = v2022 := (f2026 _ _ (fun q => by have z := ta0; rw [q.1, ta305] at z; exact absurd z (by decide))).trans c2023
                        refine q_iincE dX12_readAlp_79 rfl (by decide) (by decide) (by intros; omega) ?_
                        intro v2033 h2034
                        refine tr_goto 48 dX12_readAlp_82 (by decide) ?_
                        refine tr_iload_n dX12_readAlp_48 rfl ?_
                        refine q_iconst dX12_readAlp_49 (by decide) ?_
                        intro v2035 h2036
                        refine q_icmp_ge 85 dX12_readAlp_50 (by decide) (fun h2037 => ?_) (fun h2037 => ?_)
                        · skip
                          exfalso; omega
                        · skip
                          refine tr_iload_n dX12_readAlp_53 rfl ?_
                          refine q_if_le 63 dX12_readAlp_54 (by decide) (fun h2038 => ?_) (fun h2038 => ?_)
                          · skip
                            exfalso; omega
                          · skip
                            refine tr_aload_n dX12_readAlp_57 rfl ?_
                            refine q_bipush dX12_readAlp_58 (by decide +kernel) ?_
                            intro v2039 h2040
                            refine q_callVv hE (M' := mX12_needsSign) (as := [_]) dX12_readAlp_60 lk12_257 inX12_needsSign seX12_needsSign myX12_needsSign (by decide) ⟨by decide, by decide⟩ rfl (kR15 hS2025.1 ta0) (Nat.le_of_ble_eq_true rfl) rfl rfl (by decide) (by decide) (k_X12_needsSign hS2025.1 ta0) ?_
                            rintro cn' K' N' I2041 R2042 L2043 ⟨rfl, rfl, rfl, rfl, g2044, w2046, -⟩
                            have hS2047 := hS2025.tr g2044 (by decide +kernel) (by decide +kernel)
                            have c2048 : I2041 a1 0 = v29 := (g2044.cell ta1 (by decide +kernel)).trans c2028
                            have c2049 : I2041 a1 1 = v33 := (g2044.cell ta1 (by decide +kernel)).trans c2029
                            have ov2050 := w2046.over (by rw [c2030]; omega)
                            obtain ⟨v2051, c2052⟩ : ∃ v, I2041 a0 9 = v := ⟨_, rfl⟩
                            have b2053 := iv15_9 hS2047.1 ta0 c2052
                            obtain ⟨v2054, c2055⟩ : ∃ v, I2041 a0 13 = v := ⟨_, rfl⟩
                            obtain ⟨v2056, c2057⟩ : ∃ v, I2041 a0 14 = v := ⟨_, rfl⟩
                            (try rw [c2052] at ov2050)
                            (try rw [c2055] at ov2050)
                            (try rw [c2057] at ov2050)
                            (try rw [c2030] at ov2050)
                            (try rw [c2031] at ov2050)
                            (try rw [c2032] at ov2050)
                            refine tr_aload_n dX12_readAlp_63 rfl ?_
                            refine tr_getR dX12_readAlp_64 fl12_188 (kR15 hS2047.1 ta0) d2 ?_
                            refine tr_getR dX12_readAlp_67 fl12_260 (kR14 hS2047.1 ta1) d306 ?_
                            refine tr_iload_n dX12_readAlp_70 rfl ?_
                            refine tr_aload_n dX12_readAlp_71 rfl ?_
                            refine q_iconst dX12_readAlp_72 (by decide) ?_
                            intro v2058 h2059
                            refine q_bipush dX12_readAlp_73 (by decide +kernel) ?_
                            intro v2060 h2061
                            refine q_callVi hE (M' := mX12_readWhole) (as := [_, _]) dX12_readAlp_75 lk12_161 inX12_readWhole seX12_readWhole myX12_readWhole (by decide) ⟨by decide, by decide⟩ rfl (kR15 hS2047.1 ta0) (Nat.le_of_ble_eq_true rfl) rfl rfl (by decide) (by decide) (k_X12_readWhole hS2047.1 ta0) ?_
                            rintro v2066 cn' K' N' I2062 R2063 L2064 ⟨rfl, rfl, rfl, rfl, g2065, p2067, w2068, -⟩
                            have hS2069 := hS2047.tr g2065 (by decide +kernel) (by decide +kernel)
                            have c2070 : I2062 a1 0 = v29 := (g2065.cell ta1 (by decide +kernel)).trans c2048
                            have c2071 : I2062 a1 1 = v33 := (g2065.cell ta1 (by decide +kernel)).trans c2049
                            have b2072 : 0 ≤ v2066.toInt ∧ v2066.toInt ≤ 99 := by omega
                            clear p2067
                            have ov2073 := w2068.over (by rw [c2052]; omega)
                            obtain ⟨v2074, c2075⟩ : ∃ v, I2062 a0 9 = v := ⟨_, rfl⟩
                            have b2076 := iv15_9 hS2069.1 ta0 c2075
                            obtain ⟨v2077, c2078⟩ : ∃ v, I2062 a0 13 = v := ⟨_, rfl⟩
                            obtain ⟨v2079, c2080⟩ : ∃ v, I2062 a0 14 = v := ⟨_, rfl⟩
                            (try rw [c2075] at ov2073)
                            (try rw [c2078] at ov2073)
                            (try rw [c2080] at ov2073)
                            (try rw [c2052] at ov2073)
                            (try rw [c2055] at ov2073)
                            (try rw [c2057] at ov2073)
                            refine q_iast dX12_readAlp_78 (kR53 hS2069.1 ta305) (ti_in (nR53 hS2069.1 ta305) (by omega) (by omega)) hS2069 ta305 (iokF rfl) rfl (by rfl) ?_
                            intro I2081 hS2082 e2084 f2083
                            have c2085 : I2081 a1 0 = v29 := (f2083 _ _ (fun q => by have z := ta1; rw [q.1, ta305] at z; exact absurd z (by decide))).trans c2070
                            have c2086 : I2081 a1 1 = v33 := (f2083 _ _ (fun q => by have z := ta1; rw [q.1, ta305] at z; exact absurd z (by decide))).trans c2071
                            have c2087 : I2081 a0 9 = v2074 := (f2083 _ _ (fun q => by have z := ta0; rw [q.1, ta305] at z; exact absurd z (by decide))).trans c2075
                            have c2088 : I2081 a0 13 = v2077 := (f2083 _ _ (fun q => by have z := ta0; rw [q.1, ta305] at z; exact absurd z (by decide))).trans c2078
                            have c2089 : I2081 a0 14 = v2079 := (f2083 _ _ (fun q => by have z := ta0; rw [q.1, ta305] at z; exact absurd z (by decide))).trans c2080
                            refine q_iincE dX12_readAlp_79 rfl (by decide) (by decide) (by intros; omega) ?_
                            intro v2090 h2091
                            refine tr_goto 48 dX12_readAlp_82 (by decide) ?_
                            refine tr_iload_n dX12_readAlp_48 rfl ?_
                            refine q_iconst dX12_readAlp_49 (by decide) ?_
                            intro v2092 h2093
                            refine q_icmp_ge 85 dX12_readAlp_50 (by decide) (fun h2094 => ?_) (fun h2094 => ?_)
                            · skip
                              exfalso; omega
                            · skip
                              refine tr_iload_n dX12_readAlp_53 rfl ?_
                              refine q_if_le 63 dX12_readAlp_54 (by decide) (fun h2095 => ?_) (fun h2095 => ?_)
                              · skip
                                exfalso; omega
                              · skip
                                refine tr_aload_n dX12_readAlp_57 rfl ?_
                                refine q_bipush dX12_readAlp_58 (by decide +kernel) ?_
                                intro v2096 h2097
                                refine q_callVv hE (M' := mX12_needsSign) (as := [_]) dX12_readAlp_60 lk12_257 inX12_needsSign seX12_needsSign myX12_needsSign (by decide) ⟨by decide, by decide⟩ rfl (kR15 hS2082.1 ta0) (Nat.le_of_ble_eq_true rfl) rfl rfl (by decide) (by decide) (k_X12_needsSign hS2082.1 ta0) ?_
                                rintro cn' K' N' I2098 R2099 L2100 ⟨rfl, rfl, rfl, rfl, g2101, w2103, -⟩
                                have hS2104 := hS2082.tr g2101 (by decide +kernel) (by decide +kernel)
                                have c2105 : I2098 a1 0 = v29 := (g2101.cell ta1 (by decide +kernel)).trans c2085
                                have c2106 : I2098 a1 1 = v33 := (g2101.cell ta1 (by decide +kernel)).trans c2086
                                have ov2107 := w2103.over (by rw [c2087]; omega)
                                obtain ⟨v2108, c2109⟩ : ∃ v, I2098 a0 9 = v := ⟨_, rfl⟩
                                have b2110 := iv15_9 hS2104.1 ta0 c2109
                                obtain ⟨v2111, c2112⟩ : ∃ v, I2098 a0 13 = v := ⟨_, rfl⟩
                                obtain ⟨v2113, c2114⟩ : ∃ v, I2098 a0 14 = v := ⟨_, rfl⟩
                                (try rw [c2109] at ov2107)
                                (try rw [c2112] at ov2107)
                                (try rw [c2114] at ov2107)
                                (try rw [c2087] at ov2107)
                                (try rw [c2088] at ov2107)
                                (try rw [c2089] at ov2107)
                                refine tr_aload_n dX12_readAlp_63 rfl ?_
                                refine tr_getR dX12_readAlp_64 fl12_188 (kR15 hS2104.1 ta0) d2 ?_
                                refine tr_getR dX12_readAlp_67 fl12_260 (kR14 hS2104.1 ta1) d306 ?_
                                refine tr_iload_n dX12_readAlp_70 rfl ?_
                                refine tr_aload_n dX12_readAlp_71 rfl ?_
                                refine q_iconst dX12_readAlp_72 (by decide) ?_
                                intro v2115 h2116
                                refine q_bipush dX12_readAlp_73 (by decide +kernel) ?_
                                intro v2117 h2118
                                refine q_callVi hE (M' := mX12_readWhole) (as := [_, _]) dX12_readAlp_75 lk12_161 inX12_readWhole seX12_readWhole myX12_readWhole (by decide) ⟨by decide, by decide⟩ rfl (kR15 hS2104.1 ta0) (Nat.le_of_ble_eq_true rfl) rfl rfl (by decide) (by decide) (k_X12_readWhole hS2104.1 ta0) ?_
                                rintro v2123 cn' K' N' I2119 R2120 L2121 ⟨rfl, rfl, rfl, rfl, g2122, p2124, w2125, -⟩
                                have hS2126 := hS2104.tr g2122 (by decide +kernel) (by decide +kernel)
                                have c2127 : I2119 a1 0 = v29 := (g2122.cell ta1 (by decide +kernel)).trans c2105
                                have c2128 : I2119 a1 1 = v33 := (g2122.cell ta1 (by decide +kernel)).trans c2106
                                have b2129 : 0 ≤ v2123.toInt ∧ v2123.toInt ≤ 99 := by omega
                                clear p2124
                                have ov2130 := w2125.over (by rw [c2109]; omega)
                                obtain ⟨v2131, c2132⟩ : ∃ v, I2119 a0 9 = v := ⟨_, rfl⟩
                                have b2133 := iv15_9 hS2126.1 ta0 c2132
                                obtain ⟨v2134, c2135⟩ : ∃ v, I2119 a0 13 = v := ⟨_, rfl⟩
                                obtain ⟨v2136, c2137⟩ : ∃ v, I2119 a0 14 = v := ⟨_, rfl⟩
                                (try rw [c2132] at ov2130)
                                (try rw [c2135] at ov2130)
                                (try rw [c2137] at ov2130)
                                (try rw [c2109] at ov2130)
                                (try rw [c2112] at ov2130)
                                (try rw [c2114] at ov2130)
                                refine q_iast dX12_readAlp_78 (kR53 hS2126.1 ta305) (ti_in (nR53 hS2126.1 ta305) (by omega) (by omega)) hS2126 ta305 (iokF rfl) rfl (by rfl) ?_
                                intro I2138 hS2139 e2141 f2140
                                have c2142 : I2138 a1 0 = v29 := (f2140 _ _ (fun q => by have z := ta1; rw [q.1, ta305] at z; exact absurd z (by decide))).trans c2127
                                have c2143 : I2138 a1 1 = v33 := (f2140 _ _ (fun q => by have z := ta1; rw [q.1, ta305] at z; exact absurd z (by decide))).trans c2128
                                have c2144 : I2138 a0 9 = v2131 := (f2140 _ _ (fun q => by have z := ta0; rw [q.1, ta305] at z; exact absurd z (by decide))).trans c2132
                                have c2145 : I2138 a0 13 = v2134 := (f2140 _ _ (fun q => by have z := ta0; rw [q.1, ta305] at z; exact absurd z (by decide))).trans c2135
                                have c2146 : I2138 a0 14 = v2136 := (f2140 _ _ (fun q => by have z := ta0; rw [q.1, ta305] at z; exact absurd z (by decide))).trans c2137
                                refine q_iincE dX12_readAlp_79 rfl (by decide) (by decide) (by intros; omega) ?_
                                intro v2147 h2148
                                refine tr_goto 48 dX12_readAlp_82 (by decide) ?_
                                refine tr_iload_n dX12_readAlp_48 rfl ?_
                                refine q_iconst dX12_readAlp_49 (by decide) ?_
                                intro v2149 h2150
                                refine q_icmp_ge 85 dX12_readAlp_50 (by decide) (fun h2151 => ?_) (fun h2151 => ?_)
                                · skip
                                  exfalso; omega
                                · skip
                                  refine tr_iload_n dX12_readAlp_53 rfl ?_
                                  refine q_if_le 63 dX12_readAlp_54 (by decide) (fun h2152 => ?_) (fun h2152 => ?_)
                                  · skip
                                    exfalso; omega
                                  · skip
                                    refine tr_aload_n dX12_readAlp_57 rfl ?_
                                    refine q_bipush dX12_readAlp_58 (by decide +kernel) ?_
                                    intro v2153 h2154
                                    refine q_callVv hE (M' := mX12_needsSign) (as := [_]) dX12_readAlp_60 lk12_257 inX12_needsSign seX12_needsSign myX12_needsSign (by decide) ⟨by decide, by decide⟩ rfl (kR15 hS2139.1 ta0) (Nat.le_of_ble_eq_true rfl) rfl rfl (by decide) (by decide) (k_X12_needsSign hS2139.1 ta0) ?_
                                    rintro cn' K' N' I2155 R2156 L2157 ⟨rfl, rfl, rfl, rfl, g2158, w2160, -⟩
                                    have hS2161 := hS2139.tr g2158 (by decide +kernel) (by decide +kernel)
                                    have c2162 : I2155 a1 0 = v29 := (g2158.cell ta1 (by decide +kernel)).trans c2142
                                    have c2163 : I2155 a1 1 = v33 := (g2158.cell ta1 (by decide +kernel)).trans c2143
                                    have ov2164 := w2160.over (by rw [c2144]; omega)
                                    obtain ⟨v2165, c2166⟩ : ∃ v, I2155 a0 9 = v := ⟨_, rfl⟩
                                    have b2167 := iv15_9 hS2161.1 ta0 c2166
                                    obtain ⟨v2168, c2169⟩ : ∃ v, I2155 a0 13 = v := ⟨_, rfl⟩
                                    obtain ⟨v2170, c2171⟩ : ∃ v, I2155 a0 14 = v := ⟨_, rfl⟩
                                    (try rw [c2166] at ov2164)
                                    (try rw [c2169] at ov2164)
                                    (try rw [c2171] at ov2164)
                                    (try rw [c2144] at ov2164)
                                    (try rw [c2145] at ov2164)
                                    (try rw [c2146] at ov2164)
                                    refine tr_aload_n dX12_readAlp_63 rfl ?_
                                    refine tr_getR dX12_readAlp_64 fl12_188 (kR15 hS2161.1 ta0) d2 ?_
                                    refine tr_getR dX12_readAlp_67 fl12_260 (kR14 hS2161.1 ta1) d306 ?_
                                    refine tr_iload_n dX12_readAlp_70 rfl ?_
                                    refine tr_aload_n dX12_readAlp_71 rfl ?_
                                    refine q_iconst dX12_readAlp_72 (by decide) ?_
                                    intro v2172 h2173
                                    refine q_bipush dX12_readAlp_73 (by decide +kernel) ?_
                                    intro v2174 h2175
                                    refine q_callVi hE (M' := mX12_readWhole) (as := [_, _]) dX12_readAlp_75 lk12_161 inX12_readWhole seX12_readWhole myX12_readWhole (by decide) ⟨by decide, by decide⟩ rfl (kR15 hS2161.1 ta0) (Nat.le_of_ble_eq_true rfl) rfl rfl (by decide) (by decide) (k_X12_readWhole hS2161.1 ta0) ?_
                                    rintro v2180 cn' K' N' I2176 R2177 L2178 ⟨rfl, rfl, rfl, rfl, g2179, p2181, w2182, -⟩
                                    have hS2183 := hS2161.tr g2179 (by decide +kernel) (by decide +kernel)
                                    have c2184 : I2176 a1 0 = v29 := (g2179.cell ta1 (by decide +kernel)).trans c2162
                                    have c2185 : I2176 a1 1 = v33 := (g2179.cell ta1 (by decide +kernel)).trans c2163
                                    have b2186 : 0 ≤ v2180.toInt ∧ v2180.toInt ≤ 99 := by omega
                                    clear p2181
                                    have ov2187 := w2182.over (by rw [c2166]; omega)
                                    obtain ⟨v2188, c2189⟩ : ∃ v, I2176 a0 9 = v := ⟨_, rfl⟩
                                    have b2190 := iv15_9 hS2183.1 ta0 c2189
                                    obtain ⟨v2191, c2192⟩ : ∃ v, I2176 a0 13 = v := ⟨_, rfl⟩
                                    obtain ⟨v2193, c2194⟩ : ∃ v, I2176 a0 14 = v := ⟨_, rfl⟩
                                    (try rw [c2189] at ov2187)
                                    (try rw [c2192] at ov2187)
                                    (try rw [c2194] at ov2187)
                                    (try rw [c2166] at ov2187)
                                    (try rw [c2169] at ov2187)
                                    (try rw [c2171] at ov2187)
                                    refine q_iast dX12_readAlp_78 (kR53 hS2183.1 ta305) (ti_in (nR53 hS2183.1 ta305) (by omega) (by omega)) hS2183 ta305 (iokF rfl) rfl (by rfl) ?_
                                    intro I2195 hS2196 e2198 f2197
                                    have c2199 : I2195 a1 0 = v29 := (f2197 _ _ (fun q => by have z := ta1; rw [q.1, ta305] at z; exact absurd z (by decide))).trans c2184
                                    have c2200 : I2195 a1 1 = v33 := (f2197 _ _ (fun q => by have z := ta1; rw [q.1, ta305] at z; exact absurd z (by decide))).trans c2185
                                    have c2201 : I2195 a0 9 = v2188 := (f2197 _ _ (fun q => by have z := ta0; rw [q.1, ta305] at z; exact absurd z (by decide))).trans c2189
                                    have c2202 : I2195 a0 13 = v2191 := (f2197 _ _ (fun q => by have z := ta0; rw [q.1, ta305] at z; exact absurd z (by decide))).trans c2192
                                    have c2203 : I2195 a0 14 = v2193 := (f2197 _ _ (fun q => by have z := ta0; rw [q.1, ta305] at z; exact absurd z (by decide))).trans c2194
                                    refine q_iincE dX12_readAlp_79 rfl (by decide) (by decide) (by intros; omega) ?_
                                    intro v2204 h2205
                                    refine tr_goto 48 dX12_readAlp_82 (by decide) ?_
                                    refine tr_iload_n dX12_readAlp_48 rfl ?_
                                    refine q_iconst dX12_readAlp_49 (by decide) ?_
                                    intro v2206 h2207
                                    refine q_icmp_ge 85 dX12_readAlp_50 (by decide) (fun h2208 => ?_) (fun h2208 => ?_)
                                    · skip
                                      refine tr_aload_n dX12_readAlp_85 rfl ?_
                                      refine q_getI dX12_readAlp_86 fl12_99 (kR15 hS2196.1 ta0) c2201 ?_
                                      refine q_iconst dX12_readAlp_89 (by decide) ?_
                                      intro v2209 h2210
                                      refine q_icmp_ne 94 dX12_readAlp_90 (by decide) (fun h2211 => ?_) (fun h2211 => ?_)
                                      · skip
                                        exfalso; omega
                                      · skip
                                        have eF := hF.eq
                                        have eP := hP.eq
                                        obtain ⟨v2212, c2213⟩ : ∃ v, I2195 a0 10 = v := ⟨_, rfl⟩
                                        have b2214 := iv15_10 hS2196.1 ta0 c2213
                                        obtain ⟨v2215, c2216⟩ : ∃ v, I2195 a0 11 = v := ⟨_, rfl⟩
                                        obtain ⟨y2217, c2218⟩ : ∃ v, L2178 a0 15 = v := ⟨_, rfl⟩
                                        obtain ⟨v2219, c2220⟩ : ∃ v, I2195 a0 12 = v := ⟨_, rfl⟩
                                        obtain ⟨v2221, c2222⟩ : ∃ v, I2195 a0 8 = v := ⟨_, rfl⟩
                                        have b2223 := iv15_8 hS2196.1 ta0 c2222
                                        exact tr_vret hZ dX12_readAlp_93 rfl (by decide) (by decide) ⟨rfl, rfl, rfl, rfl, rfl, hS2196, (Or.inr (⟨(by (try rw [w106]); first | done | omega), (by (try rw [w106]); (try rw [c2201]); first | done | omega), (by (try rw [w106]); (try rw [c2202]); first | done | omega), (by (try rw [w106]); (try rw [c2203]); first | done | omega), trivial⟩)), trivial⟩
                                    · skip
                                      exfalso; omega
                    · skip
                      obtain ⟨v2224, c2225⟩ : ∃ v, I386 a0 9 = v := ⟨_, rfl⟩
                      have b2226 := iv15_9 hS394.1 ta0 c2225
                      rw [c2225] at p408
                      obtain ⟨v2227, c2228⟩ : ∃ v, I386 a0 13 = v := ⟨_, rfl⟩
                      rw [c2228] at p409
                      obtain ⟨v2229, c2230⟩ : ∃ v, I386 a0 14 = v := ⟨_, rfl⟩
                      rw [c2230] at p410
                      replace hF := hF.pos (by omega)
                      replace hP := hP.pos (by omega)
                      refine tr_aload_n dX12_readAlp_63 rfl ?_
                      refine tr_getR dX12_readAlp_64 fl12_188 (kR15 hS394.1 ta0) d2 ?_
                      refine tr_getR dX12_readAlp_67 fl12_260 (kR14 hS394.1 ta1) d306 ?_
                      refine tr_iload_n dX12_readAlp_70 rfl ?_
                      refine tr_aload_n dX12_readAlp_71 rfl ?_
                      refine q_iconst dX12_readAlp_72 (by decide) ?_
                      intro v2231 h2232
                      refine q_bipush dX12_readAlp_73 (by decide +kernel) ?_
                      intro v2233 h2234
                      refine q_callVi hE (M' := mX12_readWhole) (as := [_, _]) dX12_readAlp_75 lk12_161 inX12_readWhole seX12_readWhole myX12_readWhole (by decide) ⟨by decide, by decide⟩ rfl (kR15 hS394.1 ta0) (Nat.le_of_ble_eq_true rfl) rfl rfl (by decide) (by decide) (k_X12_readWhole hS394.1 ta0) ?_
                      rintro v2239 cn' K' N' I2235 R2236 L2237 ⟨rfl, rfl, rfl, rfl, g2238, p2240, w2241, -⟩
                      have hS2242 := hS394.tr g2238 (by decide +kernel) (by decide +kernel)
                      have c2243 : I2235 a1 0 = v29 := (g2238.cell ta1 (by decide +kernel)).trans c395
                      have c2244 : I2235 a1 1 = v33 := (g2238.cell ta1 (by decide +kernel)).trans c396
                      have b2245 : 0 ≤ v2239.toInt ∧ v2239.toInt ≤ 99 := by omega
                      clear p2240
                      have ov2246 := w2241.over (by rw [c2225]; omega)
                      obtain ⟨v2247, c2248⟩ : ∃ v, I2235 a0 9 = v := ⟨_, rfl⟩
                      have b2249 := iv15_9 hS2242.1 ta0 c2248
                      obtain ⟨v2250, c2251⟩ : ∃ v, I2235 a0 13 = v := ⟨_, rfl⟩
                      obtain ⟨v2252, c2253⟩ : ∃ v, I2235 a0 14 = v := ⟨_, rfl⟩
                      (try rw [c2248] at ov2246)
                      (try rw [c2251] at ov2246)
                      (try rw [c2253] at ov2246)
                      (try rw [c2225] at ov2246)
                      (try rw [c2228] at ov2246)
                      (try rw [c2230] at ov2246)
                      refine q_iast dX12_readAlp_78 (kR53 hS2242.1 ta305) (ti_in (nR53 hS2242.1 ta305) (by omega) (by omega)) hS2242 ta305 (iokF rfl) rfl (by rfl) ?_
                      intro I2254 hS2255 e2257 f2256
                      have c2258 : I2254 a1 0 = v29 := (f2256 _ _ (fun q => by have z := ta1; rw [q.1, ta305] at z; exact absurd z (by decide))).trans c2243
                      have c2259 : I2254 a1 1 = v33 := (f2256 _ _ (fun q => by have z := ta1; rw [q.1, ta305] at z; exact absurd z (by decide))).trans c2244
                      have c2260 : I2254 a0 9 = v2247 := (f2256 _ _ (fun q => by have z := ta0; rw [q.1, ta305] at z; exact absurd z (by decide))).trans c2248
                      have c2261 : I2254 a0 13 = v2250 := (f2256 _ _ (fun q => by have z := ta0; rw [q.1, ta305] at z; exact absurd z (by decide))).trans c2251
                      have c2262 : I2254 a0 14 = v2252 := (f2256 _ _ (fun q => by have z := ta0; rw [q.1, ta305] at z; exact absurd z (by decide))).trans c2253
                      refine q_iincE dX12_readAlp_79 rfl (by decide) (by decide) (by intros; omega) ?_
                      intro v2263 h2264
                      refine tr_goto 48 dX12_readAlp_82 (by decide) ?_
                      refine tr_iload_n dX12_readAlp_48 rfl ?_
                      refine q_iconst dX12_readAlp_49 (by decide) ?_
                      intro v2265 h2266
                      refine q_icmp_ge 85 dX12_readAlp_50 (by decide) (fun h2267 => ?_) (fun h2267 => ?_)
                      · skip
                        exfalso; omega
                      · skip
                        refine tr_iload_n dX12_readAlp_53 rfl ?_
                        refine q_if_le 63 dX12_readAlp_54 (by decide) (fun h2268 => ?_) (fun h2268 => ?_)
                        · skip
                          exfalso; omega
                        · skip
                          refine tr_aload_n dX12_readAlp_57 rfl ?_
                          refine q_bipush dX12_readAlp_58 (by decide +kernel) ?_
                          intro v2269 h2270
                          refine q_callVv hE (M' := mX12_needsSign) (as := [_]) dX12_readAlp_60 lk12_257 inX12_needsSign seX12_needsSign myX12_needsSign (by decide) ⟨by decide, by decide⟩ rfl (kR15 hS2255.1 ta0) (Nat.le_of_ble_eq_true rfl) rfl rfl (by decide) (by decide) (k_X12_needsSign hS2255.1 ta0) ?_
                          rintro cn' K' N' I2271 R2272 L2273 ⟨rfl, rfl, rfl, rfl, g2274, w2276, -⟩
                          have hS2277 := hS2255.tr g2274 (by decide +kernel) (by decide +kernel)
                          have c2278 : I2271 a1 0 = v29 := (g2274.cell ta1 (by decide +kernel)).trans c2258
                          have c2279 : I2271 a1 1 = v33 := (g2274.cell ta1 (by decide +kernel)).trans c2259
                          have ov2280 := w2276.over (by rw [c2260]; omega)
                          obtain ⟨v2281, c2282⟩ : ∃ v, I2271 a0 9 = v := ⟨_, rfl⟩
                          have b2283 := iv15_9 hS2277.1 ta0 c2282
                          obtain ⟨v2284, c2285⟩ : ∃ v, I2271 a0 13 = v := ⟨_, rfl⟩
                          obtain ⟨v2286, c2287⟩ : ∃ v, I2271 a0 14 = v := ⟨_, rfl⟩
                          (try rw [c2282] at ov2280)
                          (try rw [c2285] at ov2280)
                          (try rw [c2287] at ov2280)
                          (try rw [c2260] at ov2280)
                          (try rw [c2261] at ov2280)
                          (try rw [c2262] at ov2280)
                          refine tr_aload_n dX12_readAlp_63 rfl ?_
                          refine tr_getR dX12_readAlp_64 fl12_188 (kR15 hS2277.1 ta0) d2 ?_
                          refine tr_getR dX12_readAlp_67 fl12_260 (kR14 hS2277.1 ta1) d306 ?_
                          refine tr_iload_n dX12_readAlp_70 rfl ?_
                          refine tr_aload_n dX12_readAlp_71 rfl ?_
                          refine q_iconst dX12_readAlp_72 (by decide) ?_
                          intro v2288 h2289
                          refine q_bipush dX12_readAlp_73 (by decide +kernel) ?_
                          intro v2290 h2291
                          refine q_callVi hE (M' := mX12_readWhole) (as := [_, _]) dX12_readAlp_75 lk12_161 inX12_readWhole seX12_readWhole myX12_readWhole (by decide) ⟨by decide, by decide⟩ rfl (kR15 hS2277.1 ta0) (Nat.le_of_ble_eq_true rfl) rfl rfl (by decide) (by decide) (k_X12_readWhole hS2277.1 ta0) ?_
                          rintro v2296 cn' K' N' I2292 R2293 L2294 ⟨rfl, rfl, rfl, rfl, g2295, p2297, w2298, -⟩
                          have hS2299 := hS2277.tr g2295 (by decide +kernel) (by decide +kernel)
                          have c2300 : I2292 a1 0 = v29 := (g2295.cell ta1 (by decide +kernel)).trans c2278
                          have c2301 : I2292 a1 1 = v33 := (g2295.cell ta1 (by decide +kernel)).trans c2279
                          have b2302 : 0 ≤ v2296.toInt ∧ v2296.toInt ≤ 99 := by omega
                          clear p2297
                          have ov2303 := w2298.over (by rw [c2282]; omega)
                          obtain ⟨v2304, c2305⟩ : ∃ v, I2292 a0 9 = v := ⟨_, rfl⟩
                          have b2306 := iv15_9 hS2299.1 ta0 c2305
                          obtain ⟨v2307, c2308⟩ : ∃ v, I2292 a0 13 = v := ⟨_, rfl⟩
                          obtain ⟨v2309, c2310⟩ : ∃ v, I2292 a0 14 = v := ⟨_, rfl⟩
                          (try rw [c2305] at ov2303)
                          (try rw [c2308] at ov2303)
                          (try rw [c2310] at ov2303)
                          (try rw [c2282] at ov2303)
                          (try rw [c2285] at ov2303)
                          (try rw [c2287] at ov2303)
                          refine q_iast dX12_readAlp_78 (kR53 hS2299.1 ta305) (ti_in (nR53 hS2299.1 ta305) (by omega) (by omega)) hS2299 ta305 (iokF rfl) rfl (by rfl) ?_
                          intro I2311 hS2312 e2314 f2313
                          have c2315 : I2311 a1 0 = v29 := (f2313 _ _ (fun q => by have z := ta1; rw [q.1, ta305] at z; exact absurd z (by decide))).trans c2300
                          have c2316 : I2311 a1 1 = v33 := (f2313 _ _ (fun q => by have z := ta1; rw [q.1, ta305] at z; exact absurd z (by decide))).trans c2301
                          have c2317 : I2311 a0 9 = v2304 := (f2313 _ _ (fun q => by have z := ta0; rw [q.1, ta305] at z; exact absurd z (by decide))).trans c2305
                          have c2318 : I2311 a0 13 = v2307 := (f2313 _ _ (fun q => by have z := ta0; rw [q.1, ta305] at z; exact absurd z (by decide))).trans c2308
                          have c2319 : I2311 a0 14 = v2309 := (f2313 _ _ (fun q => by have z := ta0; rw [q.1, ta305] at z; exact absurd z (by decide))).trans c2310
                          refine q_iincE dX12_readAlp_79 rfl (by decide) (by decide) (by intros; omega) ?_
                          intro v2320 h2321
                          refine tr_goto 48 dX12_readAlp_82 (by decide) ?_
                          refine tr_iload_n dX12_readAlp_48 rfl ?_
                          refine q_iconst dX12_readAlp_49 (by decide) ?_
                          intro v2322 h2323
                          refine q_icmp_ge 85 dX12_readAlp_50 (by decide) (fun h2324 => ?_) (fun h2324 => ?_)
                          · skip
                            exfalso; omega
                          · skip
                            refine tr_iload_n dX12_readAlp_53 rfl ?_
                            refine q_if_le 63 dX12_readAlp_54 (by decide) (fun h2325 => ?_) (fun h2325 => ?_)
                            · skip
                              exfalso; omega
                            · skip
                              refine tr_aload_n dX12_readAlp_57 rfl ?_
                              refine q_bipush dX12_readAlp_58 (by decide +kernel) ?_
                              intro v2326 h2327
                              refine q_callVv hE (M' := mX12_needsSign) (as := [_]) dX12_readAlp_60 lk12_257 inX12_needsSign seX12_needsSign myX12_needsSign (by decide) ⟨by decide, by decide⟩ rfl (kR15 hS2312.1 ta0) (Nat.le_of_ble_eq_true rfl) rfl rfl (by decide) (by decide) (k_X12_needsSign hS2312.1 ta0) ?_
                              rintro cn' K' N' I2328 R2329 L2330 ⟨rfl, rfl, rfl, rfl, g2331, w2333, -⟩
                              have hS2334 := hS2312.tr g2331 (by decide +kernel) (by decide +kernel)
                              have c2335 : I2328 a1 0 = v29 := (g2331.cell ta1 (by decide +kernel)).trans c2315
                              have c2336 : I2328 a1 1 = v33 := (g2331.cell ta1 (by decide +kernel)).trans c2316
                              have ov2337 := w2333.over (by rw [c2317]; omega)
                              obtain ⟨v2338, c2339⟩ : ∃ v, I2328 a0 9 = v := ⟨_, rfl⟩
                              have b2340 := iv15_9 hS2334.1 ta0 c2339
                              obtain ⟨v2341, c2342⟩ : ∃ v, I2328 a0 13 = v := ⟨_, rfl⟩
                              obtain ⟨v2343, c2344⟩ : ∃ v, I2328 a0 14 = v := ⟨_, rfl⟩
                              (try rw [c2339] at ov2337)
                              (try rw [c2342] at ov2337)
                              (try rw [c2344] at ov2337)
                              (try rw [c2317] at ov2337)
                              (try rw [c2318] at ov2337)
                              (try rw [c2319] at ov2337)
                              refine tr_aload_n dX12_readAlp_63 rfl ?_
                              refine tr_getR dX12_readAlp_64 fl12_188 (kR15 hS2334.1 ta0) d2 ?_
                              refine tr_getR dX12_readAlp_67 fl12_260 (kR14 hS2334.1 ta1) d306 ?_
                              refine tr_iload_n dX12_readAlp_70 rfl ?_
                              refine tr_aload_n dX12_readAlp_71 rfl ?_
                              refine q_iconst dX12_readAlp_72 (by decide) ?_
                              intro v2345 h2346
                              refine q_bipush dX12_readAlp_73 (by decide +kernel) ?_
                              intro v2347 h2348
                              refine q_callVi hE (M' := mX12_readWhole) (as := [_, _]) dX12_readAlp_75 lk12_161 inX12_readWhole seX12_readWhole myX12_readWhole (by decide) ⟨by decide, by decide⟩ rfl (kR15 hS2334.1 ta0) (Nat.le_of_ble_eq_true rfl) rfl rfl (by decide) (by decide) (k_X12_readWhole hS2334.1 ta0) ?_
                              rintro v2353 cn' K' N' I2349 R2350 L2351 ⟨rfl, rfl, rfl, rfl, g2352, p2354, w2355, -⟩
                              have hS2356 := hS2334.tr g2352 (by decide +kernel) (by decide +kernel)
                              have c2357 : I2349 a1 0 = v29 := (g2352.cell ta1 (by decide +kernel)).trans c2335
                              have c2358 : I2349 a1 1 = v33 := (g2352.cell ta1 (by decide +kernel)).trans c2336
                              have b2359 : 0 ≤ v2353.toInt ∧ v2353.toInt ≤ 99 := by omega
                              clear p2354
                              have ov2360 := w2355.over (by rw [c2339]; omega)
                              obtain ⟨v2361, c2362⟩ : ∃ v, I2349 a0 9 = v := ⟨_, rfl⟩
                              have b2363 := iv15_9 hS2356.1 ta0 c2362
                              obtain ⟨v2364, c2365⟩ : ∃ v, I2349 a0 13 = v := ⟨_, rfl⟩
                              obtain ⟨v2366, c2367⟩ : ∃ v, I2349 a0 14 = v := ⟨_, rfl⟩
                              (try rw [c2362] at ov2360)
                              (try rw [c2365] at ov2360)
                              (try rw [c2367] at ov2360)
                              (try rw [c2339] at ov2360)
                              (try rw [c2342] at ov2360)
                              (try rw [c2344] at ov2360)
                              refine q_iast dX12_readAlp_78 (kR53 hS2356.1 ta305) (ti_in (nR53 hS2356.1 ta305) (by omega) (by omega)) hS2356 ta305 (iokF rfl) rfl (by rfl) ?_
                              intro I2368 hS2369 e2371 f2370
                              have c2372 : I2368 a1 0 = v29 := (f2370 _ _ (fun q => by have z := ta1; rw [q.1, ta305] at z; exact absurd z (by decide))).trans c2357
                              have c2373 : I2368 a1 1 = v33 := (f2370 _ _ (fun q => by have z := ta1; rw [q.1, ta305] at z; exact absurd z (by decide))).trans c2358
                              have c2374 : I2368 a0 9 = v2361 := (f2370 _ _ (fun q => by have z := ta0; rw [q.1, ta305] at z; exact absurd z (by decide))).trans c2362
                              have c2375 : I2368 a0 13 = v2364 := (f2370 _ _ (fun q => by have z := ta0; rw [q.1, ta305] at z; exact absurd z (by decide))).trans c2365
                              have c2376 : I2368 a0 14 = v2366 := (f2370 _ _ (fun q => by have z := ta0; rw [q.1, ta305] at z; exact absurd z (by decide))).trans c2367
                              refine q_iincE dX12_readAlp_79 rfl (by decide) (by decide) (by intros; omega) ?_
                              intro v2377 h2378
                              refine tr_goto 48 dX12_readAlp_82 (by decide) ?_
                              refine tr_iload_n dX12_readAlp_48 rfl ?_
                              refine q_iconst dX12_readAlp_49 (by decide) ?_
                              intro v2379 h2380
                              refine q_icmp_ge 85 dX12_readAlp_50 (by decide) (fun h2381 => ?_) (fun h2381 => ?_)
                              · skip
                                exfalso; omega
                              · skip
                                refine tr_iload_n dX12_readAlp_53 rfl ?_
                                refine q_if_le 63 dX12_readAlp_54 (by decide) (fun h2382 => ?_) (fun h2382 => ?_)
                                · skip
                                  exfalso; omega
                                · skip
                                  refine tr_aload_n dX12_readAlp_57 rfl ?_
                                  refine q_bipush dX12_readAlp_58 (by decide +kernel) ?_
                                  intro v2383 h2384
                                  refine q_callVv hE (M' := mX12_needsSign) (as := [_]) dX12_readAlp_60 lk12_257 inX12_needsSign seX12_needsSign myX12_needsSign (by decide) ⟨by decide, by decide⟩ rfl (kR15 hS2369.1 ta0) (Nat.le_of_ble_eq_true rfl) rfl rfl (by decide) (by decide) (k_X12_needsSign hS2369.1 ta0) ?_
                                  rintro cn' K' N' I2385 R2386 L2387 ⟨rfl, rfl, rfl, rfl, g2388, w2390, -⟩
                                  have hS2391 := hS2369.tr g2388 (by decide +kernel) (by decide +kernel)
                                  have c2392 : I2385 a1 0 = v29 := (g2388.cell ta1 (by decide +kernel)).trans c2372
                                  have c2393 : I2385 a1 1 = v33 := (g2388.cell ta1 (by decide +kernel)).trans c2373
                                  have ov2394 := w2390.over (by rw [c2374]; omega)
                                  obtain ⟨v2395, c2396⟩ : ∃ v, I2385 a0 9 = v := ⟨_, rfl⟩
                                  have b2397 := iv15_9 hS2391.1 ta0 c2396
                                  obtain ⟨v2398, c2399⟩ : ∃ v, I2385 a0 13 = v := ⟨_, rfl⟩
                                  obtain ⟨v2400, c2401⟩ : ∃ v, I2385 a0 14 = v := ⟨_, rfl⟩
                                  (try rw [c2396] at ov2394)
                                  (try rw [c2399] at ov2394)
                                  (try rw [c2401] at ov2394)
                                  (try rw [c2374] at ov2394)
                                  (try rw [c2375] at ov2394)
                                  (try rw [c2376] at ov2394)
                                  refine tr_aload_n dX12_readAlp_63 rfl ?_
                                  refine tr_getR dX12_readAlp_64 fl12_188 (kR15 hS2391.1 ta0) d2 ?_
                                  refine tr_getR dX12_readAlp_67 fl12_260 (kR14 hS2391.1 ta1) d306 ?_
                                  refine tr_iload_n dX12_readAlp_70 rfl ?_
                                  refine tr_aload_n dX12_readAlp_71 rfl ?_
                                  refine q_iconst dX12_readAlp_72 (by decide) ?_
                                  intro v2402 h2403
                                  refine q_bipush dX12_readAlp_73 (by decide +kernel) ?_
                                  intro v2404 h2405
                                  refine q_callVi hE (M' := mX12_readWhole) (as := [_, _]) dX12_readAlp_75 lk12_161 inX12_readWhole seX12_readWhole myX12_readWhole (by decide) ⟨by decide, by decide⟩ rfl (kR15 hS2391.1 ta0) (Nat.le_of_ble_eq_true rfl) rfl rfl (by decide) (by decide) (k_X12_readWhole hS2391.1 ta0) ?_
                                  rintro v2410 cn' K' N' I2406 R2407 L2408 ⟨rfl, rfl, rfl, rfl, g2409, p2411, w2412, -⟩
                                  have hS2413 := hS2391.tr g2409 (by decide +kernel) (by decide +kernel)
                                  have c2414 : I2406 a1 0 = v29 := (g2409.cell ta1 (by decide +kernel)).trans c2392
                                  have c2415 : I2406 a1 1 = v33 := (g2409.cell ta1 (by decide +kernel)).trans c2393
                                  have b2416 : 0 ≤ v2410.toInt ∧ v2410.toInt ≤ 99 := by omega
                                  clear p2411
                                  have ov2417 := w2412.over (by rw [c2396]; omega)
                                  obtain ⟨v2418, c2419⟩ : ∃ v, I2406 a0 9 = v := ⟨_, rfl⟩
                                  have b2420 := iv15_9 hS2413.1 ta0 c2419
                                  obtain ⟨v2421, c2422⟩ : ∃ v, I2406 a0 13 = v := ⟨_, rfl⟩
                                  obtain ⟨v2423, c2424⟩ : ∃ v, I2406 a0 14 = v := ⟨_, rfl⟩
                                  (try rw [c2419] at ov2417)
                                  (try rw [c2422] at ov2417)
                                  (try rw [c2424] at ov2417)
                                  (try rw [c2396] at ov2417)
                                  (try rw [c2399] at ov2417)
                                  (try rw [c2401] at ov2417)
                                  refine q_iast dX12_readAlp_78 (kR53 hS2413.1 ta305) (ti_in (nR53 hS2413.1 ta305) (by omega) (by omega)) hS2413 ta305 (iokF rfl) rfl (by rfl) ?_
                                  intro I2425 hS2426 e2428 f2427
                                  have c2429 : I2425 a1 0 = v29 := (f2427 _ _ (fun q => by have z := ta1; rw [q.1, ta305] at z; exact absurd z (by decide))).trans c2414
                                  have c2430 : I2425 a1 1 = v33 := (f2427 _ _ (fun q => by have z := ta1; rw [q.1, ta305] at z; exact absurd z (by decide))).trans c2415
                                  have c2431 : I2425 a0 9 = v2418 := (f2427 _ _ (fun q => by have z := ta0; rw [q.1, ta305] at z; exact absurd z (by decide))).trans c2419
                                  have c2432 : I2425 a0 13 = v2421 := (f2427 _ _ (fun q => by have z := ta0; rw [q.1, ta305] at z; exact absurd z (by decide))).trans c2422
                                  have c2433 : I2425 a0 14 = v2423 := (f2427 _ _ (fun q => by have z := ta0; rw [q.1, ta305] at z; exact absurd z (by decide))).trans c2424
                                  refine q_iincE dX12_readAlp_79 rfl (by decide) (by decide) (by intros; omega) ?_
                                  intro v2434 h2435
                                  refine tr_goto 48 dX12_readAlp_82 (by decide) ?_
                                  refine tr_iload_n dX12_readAlp_48 rfl ?_
                                  refine q_iconst dX12_readAlp_49 (by decide) ?_
                                  intro v2436 h2437
                                  refine q_icmp_ge 85 dX12_readAlp_50 (by decide) (fun h2438 => ?_) (fun h2438 => ?_)
                                  · skip
                                    refine tr_aload_n dX12_readAlp_85 rfl ?_
                                    refine q_getI dX12_readAlp_86 fl12_99 (kR15 hS2426.1 ta0) c2431 ?_
                                    refine q_iconst dX12_readAlp_89 (by decide) ?_
                                    intro v2439 h2440
                                    refine q_icmp_ne 94 dX12_readAlp_90 (by decide) (fun h2441 => ?_) (fun h2441 => ?_)
                                    · skip
                                      exfalso; omega
                                    · skip
                                      have eF := hF.eq
                                      have eP := hP.eq
                                      obtain ⟨v2442, c2443⟩ : ∃ v, I2425 a0 10 = v := ⟨_, rfl⟩
                                      have b2444 := iv15_10 hS2426.1 ta0 c2443
                                      obtain ⟨v2445, c2446⟩ : ∃ v, I2425 a0 11 = v := ⟨_, rfl⟩
                                      obtain ⟨y2447, c2448⟩ : ∃ v, L2408 a0 15 = v := ⟨_, rfl⟩
                                      obtain ⟨v2449, c2450⟩ : ∃ v, I2425 a0 12 = v := ⟨_, rfl⟩
                                      obtain ⟨v2451, c2452⟩ : ∃ v, I2425 a0 8 = v := ⟨_, rfl⟩
                                      have b2453 := iv15_8 hS2426.1 ta0 c2452
                                      exact tr_vret hZ dX12_readAlp_93 rfl (by decide) (by decide) ⟨rfl, rfl, rfl, rfl, rfl, hS2426, (Or.inr (⟨(by (try rw [w106]); first | done | omega), (by (try rw [w106]); (try rw [c2431]); first | done | omega), (by (try rw [w106]); (try rw [c2432]); first | done | omega), (by (try rw [w106]); (try rw [c2433]); first | done | omega), trivial⟩)), trivial⟩
                                  · skip
                                    exfalso; omega
              · skip
                obtain ⟨v2454, c2455⟩ : ∃ v, I311 a0 9 = v := ⟨_, rfl⟩
                have b2456 := iv15_9 hS319.1 ta0 c2455
                rw [c2455] at p337
                obtain ⟨v2457, c2458⟩ : ∃ v, I311 a0 13 = v := ⟨_, rfl⟩
                rw [c2458] at p338
                obtain ⟨v2459, c2460⟩ : ∃ v, I311 a0 14 = v := ⟨_, rfl⟩
                rw [c2460] at p339
                replace hF := hF.pos (by omega)
                replace hP := hP.pos (by omega)
                refine q_iast dX12_readAlp_78 (kR53 hS319.1 ta305) (ti_in (nR53 hS319.1 ta305) (by omega) (by omega)) hS319 ta305 (iokF rfl) rfl (by rfl) ?_
                intro I2461 hS2462 e2464 f2463
                have c2465 : I2461 a1 0 = v29 := (f2463 _ _ (fun q => by have z := ta1; rw [q.1, ta305] at z; exact absurd z (by decide))).trans c320
                have c2466 : I2461 a1 1 = v33 := (f2463 _ _ (fun q => by have z := ta1; rw [q.1, ta305] at z; exact absurd z (by decide))).trans c321
                have c2467 : I2461 a0 9 = v2454 := (f2463 _ _ (fun q => by have z := ta0; rw [q.1, ta305] at z; exact absurd z (by decide))).trans c2455
                have c2468 : I2461 a0 13 = v2457 := (f2463 _ _ (fun q => by have z := ta0; rw [q.1, ta305] at z; exact absurd z (by decide))).trans c2458
                have c2469 : I2461 a0 14 = v2459 := (f2463 _ _ (fun q => by have z := ta0; rw [q.1, ta305] at z; exact absurd z (by decide))).trans c2460
                refine q_iincE dX12_readAlp_79 rfl (by decide) (by decide) (by intros; omega) ?_
                intro v2470 h2471
                refine tr_goto 48 dX12_readAlp_82 (by decide) ?_
                refine tr_iload_n dX12_readAlp_48 rfl ?_
                refine q_iconst dX12_readAlp_49 (by decide) ?_
                intro v2472 h2473
                refine q_icmp_ge 85 dX12_readAlp_50 (by decide) (fun h2474 => ?_) (fun h2474 => ?_)
                · skip
                  exfalso; omega
                · skip
                  refine tr_iload_n dX12_readAlp_53 rfl ?_
                  refine q_if_le 63 dX12_readAlp_54 (by decide) (fun h2475 => ?_) (fun h2475 => ?_)
                  · skip
                    exfalso; omega
                  · skip
                    refine tr_aload_n dX12_readAlp_57 rfl ?_
                    refine q_bipush dX12_readAlp_58 (by decide +kernel) ?_
                    intro v2476 h2477
                    refine q_callVv hE (M' := mX12_needsSign) (as := [_]) dX12_readAlp_60 lk12_257 inX12_needsSign seX12_needsSign myX12_needsSign (by decide) ⟨by decide, by decide⟩ rfl (kR15 hS2462.1 ta0) (Nat.le_of_ble_eq_true rfl) rfl rfl (by decide) (by decide) (k_X12_needsSign hS2462.1 ta0) ?_
                    rintro cn' K' N' I2478 R2479 L2480 ⟨rfl, rfl, rfl, rfl, g2481, w2483, -⟩
                    have hS2484 := hS2462.tr g2481 (by decide +kernel) (by decide +kernel)
                    have c2485 : I2478 a1 0 = v29 := (g2481.cell ta1 (by decide +kernel)).trans c2465
                    have c2486 : I2478 a1 1 = v33 := (g2481.cell ta1 (by decide +kernel)).trans c2466
                    have ov2487 := w2483.over (by rw [c2467]; omega)
                    obtain ⟨v2488, c2489⟩ : ∃ v, I2478 a0 9 = v := ⟨_, rfl⟩
                    have b2490 := iv15_9 hS2484.1 ta0 c2489
                    obtain ⟨v2491, c2492⟩ : ∃ v, I2478 a0 13 = v := ⟨_, rfl⟩
                    obtain ⟨v2493, c2494⟩ : ∃ v, I2478 a0 14 = v := ⟨_, rfl⟩
                    (try rw [c2489] at ov2487)
                    (try rw [c2492] at ov2487)
                    (try rw [c2494] at ov2487)
                    (try rw [c2467] at ov2487)
                    (try rw [c2468] at ov2487)
                    (try rw [c2469] at ov2487)
                    refine tr_aload_n dX12_readAlp_63 rfl ?_
                    refine tr_getR dX12_readAlp_64 fl12_188 (kR15 hS2484.1 ta0) d2 ?_
                    refine tr_getR dX12_readAlp_67 fl12_260 (kR14 hS2484.1 ta1) d306 ?_
                    refine tr_iload_n dX12_readAlp_70 rfl ?_
                    refine tr_aload_n dX12_readAlp_71 rfl ?_
                    refine q_iconst dX12_readAlp_72 (by decide) ?_
                    intro v2495 h2496
                    refine q_bipush dX12_readAlp_73 (by decide +kernel) ?_
                    intro v2497 h2498
                    refine q_callVi hE (M' := mX12_readWhole) (as := [_, _]) dX12_readAlp_75 lk12_161 inX12_readWhole seX12_readWhole myX12_readWhole (by decide) ⟨by decide, by decide⟩ rfl (kR15 hS2484.1 ta0) (Nat.le_of_ble_eq_true rfl) rfl rfl (by decide) (by decide) (k_X12_readWhole hS2484.1 ta0) ?_
                    rintro v2503 cn' K' N' I2499 R2500 L2501 ⟨rfl, rfl, rfl, rfl, g2502, p2504, w2505, -⟩
                    have hS2506 := hS2484.tr g2502 (by decide +kernel) (by decide +kernel)
                    have c2507 : I2499 a1 0 = v29 := (g2502.cell ta1 (by decide +kernel)).trans c2485
                    have c2508 : I2499 a1 1 = v33 := (g2502.cell ta1 (by decide +kernel)).trans c2486
                    have b2509 : 0 ≤ v2503.toInt ∧ v2503.toInt ≤ 99 := by omega
                    clear p2504
                    have ov2510 := w2505.over (by rw [c2489]; omega)
                    obtain ⟨v2511, c2512⟩ : ∃ v, I2499 a0 9 = v := ⟨_, rfl⟩
                    have b2513 := iv15_9 hS2506.1 ta0 c2512
                    obtain ⟨v2514, c2515⟩ : ∃ v, I2499 a0 13 = v := ⟨_, rfl⟩
                    obtain ⟨v2516, c2517⟩ : ∃ v, I2499 a0 14 = v := ⟨_, rfl⟩
                    (try rw [c2512] at ov2510)
                    (try rw [c2515] at ov2510)
                    (try rw [c2517] at ov2510)
                    (try rw [c2489] at ov2510)
                    (try rw [c2492] at ov2510)
                    (try rw [c2494] at ov2510)
                    refine q_iast dX12_readAlp_78 (kR53 hS2506.1 ta305) (ti_in (nR53 hS2506.1 ta305) (by omega) (by omega)) hS2506 ta305 (iokF rfl) rfl (by rfl) ?_
                    intro I2518 hS2519 e2521 f2520
                    have c2522 : I2518 a1 0 = v29 := (f2520 _ _ (fun q => by have z := ta1; rw [q.1, ta305] at z; exact absurd z (by decide))).trans c2507
                    have c2523 : I2518 a1 1 = v33 := (f2520 _ _ (fun q => by have z := ta1; rw [q.1, ta305] at z; exact absurd z (by decide))).trans c2508
                    have c2524 : I2518 a0 9 = v2511 := (f2520 _ _ (fun q => by have z := ta0; rw [q.1, ta305] at z; exact absurd z (by decide))).trans c2512
                    have c2525 : I2518 a0 13 = v2514 := (f2520 _ _ (fun q => by have z := ta0; rw [q.1, ta305] at z; exact absurd z (by decide))).trans c2515
                    have c2526 : I2518 a0 14 = v2516 := (f2520 _ _ (fun q => by have z := ta0; rw [q.1, ta305] at z; exact absurd z (by decide))).trans c2517
                    refine q_iincE dX12_readAlp_79 rfl (by decide) (by decide) (by intros; omega) ?_
                    intro v2527 h2528
                    refine tr_goto 48 dX12_readAlp_82 (by decide) ?_
                    refine tr_iload_n dX12_readAlp_48 rfl ?_
                    refine q_iconst dX12_readAlp_49 (by decide) ?_
                    intro v2529 h2530
                    refine q_icmp_ge 85 dX12_readAlp_50 (by decide) (fun h2531 => ?_) (fun h2531 => ?_)
                    · skip
                      exfalso; omega
                    · skip
                      refine tr_iload_n dX12_readAlp_53 rfl ?_
                      refine q_if_le 63 dX12_readAlp_54 (by decide) (fun h2532 => ?_) (fun h2532 => ?_)
                      · skip
                        exfalso; omega
                      · skip
                        refine tr_aload_n dX12_readAlp_57 rfl ?_
                        refine q_bipush dX12_readAlp_58 (by decide +kernel) ?_
                        intro v2533 h2534
                        refine q_callVv hE (M' := mX12_needsSign) (as := [_]) dX12_readAlp_60 lk12_257 inX12_needsSign seX12_needsSign myX12_needsSign (by decide) ⟨by decide, by decide⟩ rfl (kR15 hS2519.1 ta0) (Nat.le_of_ble_eq_true rfl) rfl rfl (by decide) (by decide) (k_X12_needsSign hS2519.1 ta0) ?_
                        rintro cn' K' N' I2535 R2536 L2537 ⟨rfl, rfl, rfl, rfl, g2538, w2540, -⟩
                        have hS2541 := hS2519.tr g2538 (by decide +kernel) (by decide +kernel)
                        have c2542 : I2535 a1 0 = v29 := (g2538.cell ta1 (by decide +kernel)).trans c2522
                        have c2543 : I2535 a1 1 = v33 := (g2538.cell ta1 (by decide +kernel)).trans c2523
                        have ov2544 := w2540.over (by rw [c2524]; omega)
                        obtain ⟨v2545, c2546⟩ : ∃ v, I2535 a0 9 = v := ⟨_, rfl⟩
                        have b2547 := iv15_9 hS2541.1 ta0 c2546
                        obtain ⟨v2548, c2549⟩ : ∃ v, I2535 a0 13 = v := ⟨_, rfl⟩
                        obtain ⟨v2550, c2551⟩ : ∃ v, I2535 a0 14 = v := ⟨_, rfl⟩
                        (try rw [c2546] at ov2544)
                        (try rw [c2549] at ov2544)
                        (try rw [c2551] at ov2544)
                        (try rw [c2524] at ov2544)
                        (try rw [c2525] at ov2544)
                        (try rw [c2526] at ov2544)
                        refine tr_aload_n dX12_readAlp_63 rfl ?_
                        refine tr_getR dX12_readAlp_64 fl12_188 (kR15 hS2541.1 ta0) d2 ?_
                        refine tr_getR dX12_readAlp_67 fl12_260 (kR14 hS2541.1 ta1) d306 ?_
                        refine tr_iload_n dX12_readAlp_70 rfl ?_
                        refine tr_aload_n dX12_readAlp_71 rfl ?_
                        refine q_iconst dX12_readAlp_72 (by decide) ?_
                        intro v2552 h2553
                        refine q_bipush dX12_readAlp_73 (by decide +kernel) ?_
                        intro v2554 h2555
                        refine q_callVi hE (M' := mX12_readWhole) (as := [_, _]) dX12_readAlp_75 lk12_161 inX12_readWhole seX12_readWhole myX12_readWhole (by decide) ⟨by decide, by decide⟩ rfl (kR15 hS2541.1 ta0) (Nat.le_of_ble_eq_true rfl) rfl rfl (by decide) (by decide) (k_X12_readWhole hS2541.1 ta0) ?_
                        rintro v2560 cn' K' N' I2556 R2557 L2558 ⟨rfl, rfl, rfl, rfl, g2559, p2561, w2562, -⟩
                        have hS2563 := hS2541.tr g2559 (by decide +kernel) (by decide +kernel)
                        have c2564 : I2556 a1 0 = v29 := (g2559.cell ta1 (by decide +kernel)).trans c2542
                        have c2565 : I2556 a1 1 = v33 := (g2559.cell ta1 (by decide +kernel)).trans c2543
                        have b2566 : 0 ≤ v2560.toInt ∧ v2560.toInt ≤ 99 := by omega
                        clear p2561
                        have ov2567 := w2562.over (by rw [c2546]; omega)
                        obtain ⟨v2568, c2569⟩ : ∃ v, I2556 a0 9 = v := ⟨_, rfl⟩
                        have b2570 := iv15_9 hS2563.1 ta0 c2569
                        obtain ⟨v2571, c2572⟩ : ∃ v, I2556 a0 13 = v := ⟨_, rfl⟩
                        obtain ⟨v2573, c2574⟩ : ∃ v, I2556 a0 14 = v := ⟨_, rfl⟩
                        (try rw [c2569] at ov2567)
                        (try rw [c2572] at ov2567)
                        (try rw [c2574] at ov2567)
                        (try rw [c2546] at ov2567)
                        (try rw [c2549] at ov2567)
                        (try rw [c2551] at ov2567)
                        refine q_iast dX12_readAlp_78 (kR53 hS2563.1 ta305) (ti_in (nR53 hS2563.1 ta305) (by omega) (by omega)) hS2563 ta305 (iokF rfl) rfl (by rfl) ?_
                        intro I2575 hS2576 e2578 f2577
                        have c2579 : I2575 a1 0 = v29 := (f2577 _ _ (fun q => by have z := ta1; rw [q.1, ta305] at z; exact absurd z (by decide))).trans c2564
                        have c2580 : I2575 a1 1 = v33 := (f2577 _ _ (fun q => by have z := ta1; rw [q.1, ta305] at z; exact absurd z (by decide))).trans c2565
                        have c2581 : I2575 a0 9 = v2568 := (f2577 _ _ (fun q => by have z := ta0; rw [q.1, ta305] at z; exact absurd z (by decide))).trans c2569
                        have c2582 : I2575 a0 13 = v2571 := (f2577 _ _ (fun q => by have z := ta0; rw [q.1, ta305] at z; exact absurd z (by decide))).trans c2572
                        have c2583 : I2575 a0 14 = v2573 := (f2577 _ _ (fun q => by have z := ta0; rw [q.1, ta305] at z; exact absurd z (by decide))).trans c2574
                        refine q_iincE dX12_readAlp_79 rfl (by decide) (by decide) (by intros; omega) ?_
                        intro v2584 h2585
                        refine tr_goto 48 dX12_readAlp_82 (by decide) ?_
                        refine tr_iload_n dX12_readAlp_48 rfl ?_
                        refine q_iconst dX12_readAlp_49 (by decide) ?_
                        intro v2586 h2587
                        refine q_icmp_ge 85 dX12_readAlp_50 (by decide) (fun h2588 => ?_) (fun h2588 => ?_)
                        · skip
                          exfalso; omega
                        · skip
                          refine tr_iload_n dX12_readAlp_53 rfl ?_
                          refine q_if_le 63 dX12_readAlp_54 (by decide) (fun h2589 => ?_) (fun h2589 => ?_)
                          · skip
                            exfalso; omega
                          · skip
                            refine tr_aload_n dX12_readAlp_57 rfl ?_
                            refine q_bipush dX12_readAlp_58 (by decide +kernel) ?_
                            intro v2590 h2591
                            refine q_callVv hE (M' := mX12_needsSign) (as := [_]) dX12_readAlp_60 lk12_257 inX12_needsSign seX12_needsSign myX12_needsSign (by decide) ⟨by decide, by decide⟩ rfl (kR15 hS2576.1 ta0) (Nat.le_of_ble_eq_true rfl) rfl rfl (by decide) (by decide) (k_X12_needsSign hS2576.1 ta0) ?_
                            rintro cn' K' N' I2592 R2593 L2594 ⟨rfl, rfl, rfl, rfl, g2595, w2597, -⟩
                            have hS2598 := hS2576.tr g2595 (by decide +kernel) (by decide +kernel)
                            have c2599 : I2592 a1 0 = v29 := (g2595.cell ta1 (by decide +kernel)).trans c2579
                            have c2600 : I2592 a1 1 = v33 := (g2595.cell ta1 (by decide +kernel)).trans c2580
                            have ov2601 := w2597.over (by rw [c2581]; omega)
                            obtain ⟨v2602, c2603⟩ : ∃ v, I2592 a0 9 = v := ⟨_, rfl⟩
                            have b2604 := iv15_9 hS2598.1 ta0 c2603
                            obtain ⟨v2605, c2606⟩ : ∃ v, I2592 a0 13 = v := ⟨_, rfl⟩
                            obtain ⟨v2607, c2608⟩ : ∃ v, I2592 a0 14 = v := ⟨_, rfl⟩
                            (try rw [c2603] at ov2601)
                            (try rw [c2606] at ov2601)
                            (try rw [c2608] at ov2601)
                            (try rw [c2581] at ov2601)
                            (try rw [c2582] at ov2601)
                            (try rw [c2583] at ov2601)
                            refine tr_aload_n dX12_readAlp_63 rfl ?_
                            refine tr_getR dX12_readAlp_64 fl12_188 (kR15 hS2598.1 ta0) d2 ?_
                            refine tr_getR dX12_readAlp_67 fl12_260 (kR14 hS2598.1 ta1) d306 ?_
                            refine tr_iload_n dX12_readAlp_70 rfl ?_
                            refine tr_aload_n dX12_readAlp_71 rfl ?_
                            refine q_iconst dX12_readAlp_72 (by decide) ?_
                            intro v2609 h2610
                            refine q_bipush dX12_readAlp_73 (by decide +kernel) ?_
                            intro v2611 h2612
                            refine q_callVi hE (M' := mX12_readWhole) (as := [_, _]) dX12_readAlp_75 lk12_161 inX12_readWhole seX12_readWhole myX12_readWhole (by decide) ⟨by decide, by decide⟩ rfl (kR15 hS2598.1 ta0) (Nat.le_of_ble_eq_true rfl) rfl rfl (by decide) (by decide) (k_X12_readWhole hS2598.1 ta0) ?_
                            rintro v2617 cn' K' N' I2613 R2614 L2615 ⟨rfl, rfl, rfl, rfl, g2616, p2618, w2619, -⟩
                            have hS2620 := hS2598.tr g2616 (by decide +kernel) (by decide +kernel)
                            have c2621 : I2613 a1 0 = v29 := (g2616.cell ta1 (by decide +kernel)).trans c2599
                            have c2622 : I2613 a1 1 = v33 := (g2616.cell ta1 (by decide +kernel)).trans c2600
                            have b2623 : 0 ≤ v2617.toInt ∧ v2617.toInt ≤ 99 := by omega
                            clear p2618
                            have ov2624 := w2619.over (by rw [c2603]; omega)
                            obtain ⟨v2625, c2626⟩ : ∃ v, I2613 a0 9 = v := ⟨_, rfl⟩
                            have b2627 := iv15_9 hS2620.1 ta0 c2626
                            obtain ⟨v2628, c2629⟩ : ∃ v, I2613 a0 13 = v := ⟨_, rfl⟩
                            obtain ⟨v2630, c2631⟩ : ∃ v, I2613 a0 14 = v := ⟨_, rfl⟩
                            (try rw [c2626] at ov2624)
                            (try rw [c2629] at ov2624)
                            (try rw [c2631] at ov2624)
                            (try rw [c2603] at ov2624)
                            (try rw [c2606] at ov2624)
                            (try rw [c2608] at ov2624)
                            refine q_iast dX12_readAlp_78 (kR53 hS2620.1 ta305) (ti_in (nR53 hS2620.1 ta305) (by omega) (by omega)) hS2620 ta305 (iokF rfl) rfl (by rfl) ?_
                            intro I2632 hS2633 e2635 f2634
                            have c2636 : I2632 a1 0 = v29 := (f2634 _ _ (fun q => by have z := ta1; rw [q.1, ta305] at z; exact absurd z (by decide))).trans c2621
                            have c2637 : I2632 a1 1 = v33 := (f2634 _ _ (fun q => by have z := ta1; rw [q.1, ta305] at z; exact absurd z (by decide))).trans c2622
                            have c2638 : I2632 a0 9 = v2625 := (f2634 _ _ (fun q => by have z := ta0; rw [q.1, ta305] at z; exact absurd z (by decide))).trans c2626
                            have c2639 : I2632 a0 13 = v2628 := (f2634 _ _ (fun q => by have z := ta0; rw [q.1, ta305] at z; exact absurd z (by decide))).trans c2629
                            have c2640 : I2632 a0 14 = v2630 := (f2634 _ _ (fun q => by have z := ta0; rw [q.1, ta305] at z; exact absurd z (by decide))).trans c2631
                            refine q_iincE dX12_readAlp_79 rfl (by decide) (by decide) (by intros; omega) ?_
                            intro v2641 h2642
                            refine tr_goto 48 dX12_readAlp_82 (by decide) ?_
                            refine tr_iload_n dX12_readAlp_48 rfl ?_
                            refine q_iconst dX12_readAlp_49 (by decide) ?_
                            intro v2643 h2644
                            refine q_icmp_ge 85 dX12_readAlp_50 (by decide) (fun h2645 => ?_) (fun h2645 => ?_)
                            · skip
                              exfalso; omega
                            · skip
                              refine tr_iload_n dX12_readAlp_53 rfl ?_
                              refine q_if_le 63 dX12_readAlp_54 (by decide) (fun h2646 => ?_) (fun h2646 => ?_)
                              · skip
                                exfalso; omega
                              · skip
                                refine tr_aload_n dX12_readAlp_57 rfl ?_
                                refine q_bipush dX12_readAlp_58 (by decide +kernel) ?_
                                intro v2647 h2648
                                refine q_callVv hE (M' := mX12_needsSign) (as := [_]) dX12_readAlp_60 lk12_257 inX12_needsSign seX12_needsSign myX12_needsSign (by decide) ⟨by decide, by decide⟩ rfl (kR15 hS2633.1 ta0) (Nat.le_of_ble_eq_true rfl) rfl rfl (by decide) (by decide) (k_X12_needsSign hS2633.1 ta0) ?_
                                rintro cn' K' N' I2649 R2650 L2651 ⟨rfl, rfl, rfl, rfl, g2652, w2654, -⟩
                                have hS2655 := hS2633.tr g2652 (by decide +kernel) (by decide +kernel)
                                have c2656 : I2649 a1 0 = v29 := (g2652.cell ta1 (by decide +kernel)).trans c2636
                                have c2657 : I2649 a1 1 = v33 := (g2652.cell ta1 (by decide +kernel)).trans c2637
                                have ov2658 := w2654.over (by rw [c2638]; omega)
                                obtain ⟨v2659, c2660⟩ : ∃ v, I2649 a0 9 = v := ⟨_, rfl⟩
                                have b2661 := iv15_9 hS2655.1 ta0 c2660
                                obtain ⟨v2662, c2663⟩ : ∃ v, I2649 a0 13 = v := ⟨_, rfl⟩
                                obtain ⟨v2664, c2665⟩ : ∃ v, I2649 a0 14 = v := ⟨_, rfl⟩
                                (try rw [c2660] at ov2658)
                                (try rw [c2663] at ov2658)
                                (try rw [c2665] at ov2658)
                                (try rw [c2638] at ov2658)
                                (try rw [c2639] at ov2658)
                                (try rw [c2640] at ov2658)
                                refine tr_aload_n dX12_readAlp_63 rfl ?_
                                refine tr_getR dX12_readAlp_64 fl12_188 (kR15 hS2655.1 ta0) d2 ?_
                                refine tr_getR dX12_readAlp_67 fl12_260 (kR14 hS2655.1 ta1) d306 ?_
                                refine tr_iload_n dX12_readAlp_70 rfl ?_
                                refine tr_aload_n dX12_readAlp_71 rfl ?_
                                refine q_iconst dX12_readAlp_72 (by decide) ?_
                                intro v2666 h2667
                                refine q_bipush dX12_readAlp_73 (by decide +kernel) ?_
                                intro v2668 h2669
                                refine q_callVi hE (M' := mX12_readWhole) (as := [_, _]) dX12_readAlp_75 lk12_161 inX12_readWhole seX12_readWhole myX12_readWhole (by decide) ⟨by decide, by decide⟩ rfl (kR15 hS2655.1 ta0) (Nat.le_of_ble_eq_true rfl) rfl rfl (by decide) (by decide) (k_X12_readWhole hS2655.1 ta0) ?_
                                rintro v2674 cn' K' N' I2670 R2671 L2672 ⟨rfl, rfl, rfl, rfl, g2673, p2675, w2676, -⟩
                                have hS2677 := hS2655.tr g2673 (by decide +kernel) (by decide +kernel)
                                have c2678 : I2670 a1 0 = v29 := (g2673.cell ta1 (by decide +kernel)).trans c2656
                                have c2679 : I2670 a1 1 = v33 := (g2673.cell ta1 (by decide +kernel)).trans c2657
                                have b2680 : 0 ≤ v2674.toInt ∧ v2674.toInt ≤ 99 := by omega
                                clear p2675
                                have ov2681 := w2676.over (by rw [c2660]; omega)
                                obtain ⟨v2682, c2683⟩ : ∃ v, I2670 a0 9 = v := ⟨_, rfl⟩
                                have b2684 := iv15_9 hS2677.1 ta0 c2683
                                obtain ⟨v2685, c2686⟩ : ∃ v, I2670 a0 13 = v := ⟨_, rfl⟩
                                obtain ⟨v2687, c2688⟩ : ∃ v, I2670 a0 14 = v := ⟨_, rfl⟩
                                (try rw [c2683] at ov2681)
                                (try rw [c2686] at ov2681)
                                (try rw [c2688] at ov2681)
                                (try rw [c2660] at ov2681)
                                (try rw [c2663] at ov2681)
                                (try rw [c2665] at ov2681)
                                refine q_iast dX12_readAlp_78 (kR53 hS2677.1 ta305) (ti_in (nR53 hS2677.1 ta305) (by omega) (by omega)) hS2677 ta305 (iokF rfl) rfl (by rfl) ?_
                                intro I2689 hS2690 e2692 f2691
                                have c2693 : I2689 a1 0 = v29 := (f2691 _ _ (fun q => by have z := ta1; rw [q.1, ta305] at z; exact absurd z (by decide))).trans c2678
                                have c2694 : I2689 a1 1 = v33 := (f2691 _ _ (fun q => by have z := ta1; rw [q.1, ta305] at z; exact absurd z (by decide))).trans c2679
                                have c2695 : I2689 a0 9 = v2682 := (f2691 _ _ (fun q => by have z := ta0; rw [q.1, ta305] at z; exact absurd z (by decide))).trans c2683
                                have c2696 : I2689 a0 13 = v2685 := (f2691 _ _ (fun q => by have z := ta0; rw [q.1, ta305] at z; exact absurd z (by decide))).trans c2686
                                have c2697 : I2689 a0 14 = v2687 := (f2691 _ _ (fun q => by have z := ta0; rw [q.1, ta305] at z; exact absurd z (by decide))).trans c2688
                                refine q_iincE dX12_readAlp_79 rfl (by decide) (by decide) (by intros; omega) ?_
                                intro v2698 h2699
                                refine tr_goto 48 dX12_readAlp_82 (by decide) ?_
                                refine tr_iload_n dX12_readAlp_48 rfl ?_
                                refine q_iconst dX12_readAlp_49 (by decide) ?_
                                intro v2700 h2701
                                refine q_icmp_ge 85 dX12_readAlp_50 (by decide) (fun h2702 => ?_) (fun h2702 => ?_)
                                · skip
                                  refine tr_aload_n dX12_readAlp_85 rfl ?_
                                  refine q_getI dX12_readAlp_86 fl12_99 (kR15 hS2690.1 ta0) c2695 ?_
                                  refine q_iconst dX12_readAlp_89 (by decide) ?_
                                  intro v2703 h2704
                                  refine q_icmp_ne 94 dX12_readAlp_90 (by decide) (fun h2705 => ?_) (fun h2705 => ?_)
                                  · skip
                                    exfalso; omega
                                  · skip
                                    have eF := hF.eq
                                    have eP := hP.eq
                                    obtain ⟨v2706, c2707⟩ : ∃ v, I2689 a0 10 = v := ⟨_, rfl⟩
                                    have b2708 := iv15_10 hS2690.1 ta0 c2707
                                    obtain ⟨v2709, c2710⟩ : ∃ v, I2689 a0 11 = v := ⟨_, rfl⟩
                                    obtain ⟨y2711, c2712⟩ : ∃ v, L2672 a0 15 = v := ⟨_, rfl⟩
                                    obtain ⟨v2713, c2714⟩ : ∃ v, I2689 a0 12 = v := ⟨_, rfl⟩
                                    obtain ⟨v2715, c2716⟩ : ∃ v, I2689 a0 8 = v := ⟨_, rfl⟩
                                    have b2717 := iv15_8 hS2690.1 ta0 c2716
                                    exact tr_vret hZ dX12_readAlp_93 rfl (by decide) (by decide) ⟨rfl, rfl, rfl, rfl, rfl, hS2690, (Or.inr (⟨(by (try rw [w106]); first | done | omega), (by (try rw [w106]); (try rw [c2695]); first | done | omega), (by (try rw [w106]); (try rw [c2696]); first | done | omega), (by (try rw [w106]); (try rw [c2697]); first | done | omega), trivial⟩)), trivial⟩
                                · skip
                                  exfalso; omega
              · skip
                obtain ⟨v2718, c2719⟩ : ∃ v, I311 a0 9 = v := ⟨_, rfl⟩
                have b2720 := iv15_9 hS319.1 ta0 c2719
                rw [c2719] at p343
                obtain ⟨v2721, c2722⟩ : ∃ v, I311 a0 13 = v := ⟨_, rfl⟩
                rw [c2722] at p344
                obtain ⟨v2723, c2724⟩ : ∃ v, I311 a0 14 = v := ⟨_, rfl⟩
                rw [c2724] at p345
                replace hF := hF.neg (by omega)
                replace hP := hP.neg (by omega)
                replace hF := hF.pos (by omega)
                replace hP := hP.pos (by omega)
                refine q_iast dX12_readAlp_78 (kR53 hS319.1 ta305) (ti_in (nR53 hS319.1 ta305) (by omega) (by omega)) hS319 ta305 (iokF rfl) rfl (by rfl) ?_
                intro I2725 hS2726 e2728 f2727
                have c2729 : I2725 a1 0 = v29 := (f2727 _ _ (fun q => by have z := ta1; rw [q.1, ta305] at z; exact absurd z (by decide))).trans c320
                have c2730 : I2725 a1 1 = v33 := (f2727 _ _ (fun q => by have z := ta1; rw [q.1, ta305] at z; exact absurd z (by decide))).trans c321
                have c2731 : I2725 a0 9 = v2718 := (f2727 _ _ (fun q => by have z := ta0; rw [q.1, ta305] at z; exact absurd z (by decide))).trans c2719
                have c2732 : I2725 a0 13 = v2721 := (f2727 _ _ (fun q => by have z := ta0; rw [q.1, ta305] at z; exact absurd z (by decide))).trans c2722
                have c2733 : I2725 a0 14 = v2723 := (f2727 _ _ (fun q => by have z := ta0; rw [q.1, ta305] at z; exact absurd z (by decide))).trans c2724
                refine q_iincE dX12_readAlp_79 rfl (by decide) (by decide) (by intros; omega) ?_
                intro v2734 h2735
                refine tr_goto 48 dX12_readAlp_82 (by decide) ?_
                refine tr_iload_n dX12_readAlp_48 rfl ?_
                refine q_iconst dX12_readAlp_49 (by decide) ?_
                intro v2736 h2737
                refine q_icmp_ge 85 dX12_readAlp_50 (by decide) (fun h2738 => ?_) (fun h2738 => ?_)
                · skip
                  exfalso; omega
                · skip
                  refine tr_iload_n dX12_readAlp_53 rfl ?_
                  refine q_if_le 63 dX12_readAlp_54 (by decide) (fun h2739 => ?_) (fun h2739 => ?_)
                  · skip
                    exfalso; omega
                  · skip
                    refine tr_aload_n dX12_readAlp_57 rfl ?_
                    refine q_bipush dX12_readAlp_58 (by decide +kernel) ?_
                    intro v2740 h2741
                    refine q_callVv hE (M' := mX12_needsSign) (as := [_]) dX12_readAlp_60 lk12_257 inX12_needsSign seX12_needsSign myX12_needsSign (by decide) ⟨by decide, by decide⟩ rfl (kR15 hS2726.1 ta0) (Nat.le_of_ble_eq_true rfl) rfl rfl (by decide) (by decide) (k_X12_needsSign hS2726.1 ta0) ?_
                    rintro cn' K' N' I2742 R2743 L2744 ⟨rfl, rfl, rfl, rfl, g2745, w2747, -⟩
                    have hS2748 := hS2726.tr g2745 (by decide +kernel) (by decide +kernel)
                    have c2749 : I2742 a1 0 = v29 := (g2745.cell ta1 (by decide +kernel)).trans c2729
                    have c2750 : I2742 a1 1 = v33 := (g2745.cell ta1 (by decide +kernel)).trans c2730
                    have ov2751 := w2747.over (by rw [c2731]; omega)
                    obtain ⟨v2752, c2753⟩ : ∃ v, I2742 a0 9 = v := ⟨_, rfl⟩
                    have b2754 := iv15_9 hS2748.1 ta0 c2753
                    obtain ⟨v2755, c2756⟩ : ∃ v, I2742 a0 13 = v := ⟨_, rfl⟩
                    obtain ⟨v2757, c2758⟩ : ∃ v, I2742 a0 14 = v := ⟨_, rfl⟩
                    (try rw [c2753] at ov2751)
                    (try rw [c2756] at ov2751)
                    (try rw [c2758] at ov2751)
                    (try rw [c2731] at ov2751)
                    (try rw [c2732] at ov2751)
                    (try rw [c2733] at ov2751)
                    refine tr_aload_n dX12_readAlp_63 rfl ?_
                    refine tr_getR dX12_readAlp_64 fl12_188 (kR15 hS2748.1 ta0) d2 ?_
                    refine tr_getR dX12_readAlp_67 fl12_260 (kR14 hS2748.1 ta1) d306 ?_
                    refine tr_iload_n dX12_readAlp_70 rfl ?_
                    refine tr_aload_n dX12_readAlp_71 rfl ?_
                    refine q_iconst dX12_readAlp_72 (by decide) ?_
                    intro v2759 h2760
                    refine q_bipush dX12_readAlp_73 (by decide +kernel) ?_
                    intro v2761 h2762
                    refine q_callVi hE (M' := mX12_readWhole) (as := [_, _]) dX12_readAlp_75 lk12_161 inX12_readWhole seX12_readWhole myX12_readWhole (by decide) ⟨by decide, by decide⟩ rfl (kR15 hS2748.1 ta0) (Nat.le_of_ble_eq_true rfl) rfl rfl (by decide) (by decide) (k_X12_readWhole hS2748.1 ta0) ?_
                    rintro v2767 cn' K' N' I2763 R2764 L2765 ⟨rfl, rfl, rfl, rfl, g2766, p2768, w2769, -⟩
                    have hS2770 := hS2748.tr g2766 (by decide +kernel) (by decide +kernel)
                    have c2771 : I2763 a1 0 = v29 := (g2766.cell ta1 (by decide +kernel)).trans c2749
                    have c2772 : I2763 a1 1 = v33 := (g2766.cell ta1 (by decide +kernel)).trans c2750
                    have b2773 : 0 ≤ v2767.toInt ∧ v2767.toInt ≤ 99 := by omega
                    clear p2768
                    have ov2774 := w2769.over (by rw [c2753]; omega)
                    obtain ⟨v2775, c2776⟩ : ∃ v, I2763 a0 9 = v := ⟨_, rfl⟩
                    have b2777 := iv15_9 hS2770.1 ta0 c2776
                    obtain ⟨v2778, c2779⟩ : ∃ v, I2763 a0 13 = v := ⟨_, rfl⟩
                    obtain ⟨v2780, c2781⟩ : ∃ v, I2763 a0 14 = v := ⟨_, rfl⟩
                    (try rw [c2776] at ov2774)
                    (try rw [c2779] at ov2774)
                    (try rw [c2781] at ov2774)
                    (try rw [c2753] at ov2774)
                    (try rw [c2756] at ov2774)
                    (try rw [c2758] at ov2774)
                    refine q_iast dX12_readAlp_78 (kR53 hS2770.1 ta305) (ti_in (nR53 hS2770.1 ta305) (by omega) (by omega)) hS2770 ta305 (iokF rfl) rfl (by rfl) ?_
                    intro I2782 hS2783 e2785 f2784
                    have c2786 : I2782 a1 0 = v29 := (f2784 _ _ (fun q => by have z := ta1; rw [q.1, ta305] at z; exact absurd z (by decide))).trans c2771
                    have c2787 : I2782 a1 1 = v33 := (f2784 _ _ (fun q => by have z := ta1; rw [q.1, ta305] at z; exact absurd z (by decide))).trans c2772
                    have c2788 : I2782 a0 9 = v2775 := (f2784 _ _ (fun q => by have z := ta0; rw [q.1, ta305] at z; exact absurd z (by decide))).trans c2776
                    have c2789 : I2782 a0 13 = v2778 := (f2784 _ _ (fun q => by have z := ta0; rw [q.1, ta305] at z; exact absurd z (by decide))).trans c2779
                    have c2790 : I2782 a0 14 = v2780 := (f2784 _ _ (fun q => by have z := ta0; rw [q.1, ta305] at z; exact absurd z (by decide))).trans c2781
                    refine q_iincE dX12_readAlp_79 rfl (by decide) (by decide) (by intros; omega) ?_
                    intro v2791 h2792
                    refine tr_goto 48 dX12_readAlp_82 (by decide) ?_
                    refine tr_iload_n dX12_readAlp_48 rfl ?_
                    refine q_iconst dX12_readAlp_49 (by decide) ?_
                    intro v2793 h2794
                    refine q_icmp_ge 85 dX12_readAlp_50 (by decide) (fun h2795 => ?_) (fun h2795 => ?_)
                    · skip
                      exfalso; omega
                    · skip
                      refine tr_iload_n dX12_readAlp_53 rfl ?_
                      refine q_if_le 63 dX12_readAlp_54 (by decide) (fun h2796 => ?_) (fun h2796 => ?_)
                      · skip
                        exfalso; omega
                      · skip
                        refine tr_aload_n dX12_readAlp_57 rfl ?_
                        refine q_bipush dX12_readAlp_58 (by decide +kernel) ?_
                        intro v2797 h2798
                        refine q_callVv hE (M' := mX12_needsSign) (as := [_]) dX12_readAlp_60 lk12_257 inX12_needsSign seX12_needsSign myX12_needsSign (by decide) ⟨by decide, by decide⟩ rfl (kR15 hS2783.1 ta0) (Nat.le_of_ble_eq_true rfl) rfl rfl (by decide) (by decide) (k_X12_needsSign hS2783.1 ta0) ?_
                        rintro cn' K' N' I2799 R2800 L2801 ⟨rfl, rfl, rfl, rfl, g2802, w2804, -⟩
                        have hS2805 := hS2783.tr g2802 (by decide +kernel) (by decide +kernel)
                        have c2806 : I2799 a1 0 = v29 := (g2802.cell ta1 (by decide +kernel)).trans c2786
                        have c2807 : I2799 a1 1 = v33 := (g2802.cell ta1 (by decide +kernel)).trans c2787
                        have ov2808 := w2804.over (by rw [c2788]; omega)
                        obtain ⟨v2809, c2810⟩ : ∃ v, I2799 a0 9 = v := ⟨_, rfl⟩
                        have b2811 := iv15_9 hS2805.1 ta0 c2810
                        obtain ⟨v2812, c2813⟩ : ∃ v, I2799 a0 13 = v := ⟨_, rfl⟩
                        obtain ⟨v2814, c2815⟩ : ∃ v, I2799 a0 14 = v := ⟨_, rfl⟩
                        (try rw [c2810] at ov2808)
                        (try rw [c2813] at ov2808)
                        (try rw [c2815] at ov2808)
                        (try rw [c2788] at ov2808)
                        (try rw [c2789] at ov2808)
                        (try rw [c2790] at ov2808)
                        refine tr_aload_n dX12_readAlp_63 rfl ?_
                        refine tr_getR dX12_readAlp_64 fl12_188 (kR15 hS2805.1 ta0) d2 ?_
                        refine tr_getR dX12_readAlp_67 fl12_260 (kR14 hS2805.1 ta1) d306 ?_
                        refine tr_iload_n dX12_readAlp_70 rfl ?_
                        refine tr_aload_n dX12_readAlp_71 rfl ?_
                        refine q_iconst dX12_readAlp_72 (by decide) ?_
                        intro v2816 h2817
                        refine q_bipush dX12_readAlp_73 (by decide +kernel) ?_
                        intro v2818 h2819
                        refine q_callVi hE (M' := mX12_readWhole) (as := [_, _]) dX12_readAlp_75 lk12_161 inX12_readWhole seX12_readWhole myX12_readWhole (by decide) ⟨by decide, by decide⟩ rfl (kR15 hS2805.1 ta0) (Nat.le_of_ble_eq_true rfl) rfl rfl (by decide) (by decide) (k_X12_readWhole hS2805.1 ta0) ?_
                        rintro v2824 cn' K' N' I2820 R2821 L2822 ⟨rfl, rfl, rfl, rfl, g2823, p2825, w2826, -⟩
                        have hS2827 := hS2805.tr g2823 (by decide +kernel) (by decide +kernel)
                        have c2828 : I2820 a1 0 = v29 := (g2823.cell ta1 (by decide +kernel)).trans c2806
                        have c2829 : I2820 a1 1 = v33 := (g2823.cell ta1 (by decide +kernel)).trans c2807
                        have b2830 : 0 ≤ v2824.toInt ∧ v2824.toInt ≤ 99 := by omega
                        clear p2825
                        have ov2831 := w2826.over (by rw [c2810]; omega)
                        obtain ⟨v2832, c2833⟩ : ∃ v, I2820 a0 9 = v := ⟨_, rfl⟩
                        have b2834 := iv15_9 hS2827.1 ta0 c2833
                        obtain ⟨v2835, c2836⟩ : ∃ v, I2820 a0 13 = v := ⟨_, rfl⟩
                        obtain ⟨v2837, c2838⟩ : ∃ v, I2820 a0 14 = v := ⟨_, rfl⟩
                        (try rw [c2833] at ov2831)
                        (try rw [c2836] at ov2831)
                        (try rw [c2838] at ov2831)
                        (try rw [c2810] at ov2831)
                        (try rw [c2813] at ov2831)
                        (try rw [c2815] at ov2831)
                        refine q_iast dX12_readAlp_78 (kR53 hS2827.1 ta305) (ti_in (nR53 hS2827.1 ta305) (by omega) (by omega)) hS2827 ta305 (iokF rfl) rfl (by rfl) ?_
                        intro I2839 hS2840 e2842 f2841
                        have c2843 : I2839 a1 0 = v29 := (f2841 _ _ (fun q => by have z := ta1; rw [q.1, ta305] at z; exact absurd z (by decide))).trans c2828
                        have c2844 : I2839 a1 1 = v33 := (f2841 _ _ (fun q => by have z := ta1; rw [q.1, ta305] at z; exact absurd z (by decide))).trans c2829
                        have c2845 : I2839 a0 9 = v2832 := (f2841 _ _ (fun q => by have z := ta0; rw [q.1, ta305] at z; exact absurd z (by decide))).trans c2833
                        have c2846 : I2839 a0 13 = v2835 := (f2841 _ _ (fun q => by have z := ta0; rw [q.1, ta305] at z; exact absurd z (by decide))).trans c2836
                        have c2847 : I2839 a0 14 = v2837 := (f2841 _ _ (fun q => by have z := ta0; rw [q.1, ta305] at z; exact absurd z (by decide))).trans c2838
                        refine q_iincE dX12_readAlp_79 rfl (by decide) (by decide) (by intros; omega) ?_
                        intro v2848 h2849
                        refine tr_goto 48 dX12_readAlp_82 (by decide) ?_
                        refine tr_iload_n dX12_readAlp_48 rfl ?_
                        refine q_iconst dX12_readAlp_49 (by decide) ?_
                        intro v2850 h2851
                        refine q_icmp_ge 85 dX12_readAlp_50 (by decide) (fun h2852 => ?_) (fun h2852 => ?_)
                        · skip
                          exfalso; omega
                        · skip
                          refine tr_iload_n dX12_readAlp_53 rfl ?_
                          refine q_if_le 63 dX12_readAlp_54 (by decide) (fun h2853 => ?_) (fun h2853 => ?_)
                          · skip
                            exfalso; omega
                          · skip
                            refine tr_aload_n dX12_readAlp_57 rfl ?_
                            refine q_bipush dX12_readAlp_58 (by decide +kernel) ?_
                            intro v2854 h2855
                            refine q_callVv hE (M' := mX12_needsSign) (as := [_]) dX12_readAlp_60 lk12_257 inX12_needsSign seX12_needsSign myX12_needsSign (by decide) ⟨by decide, by decide⟩ rfl (kR15 hS2840.1 ta0) (Nat.le_of_ble_eq_true rfl) rfl rfl (by decide) (by decide) (k_X12_needsSign hS2840.1 ta0) ?_
                            rintro cn' K' N' I2856 R2857 L2858 ⟨rfl, rfl, rfl, rfl, g2859, w2861, -⟩
                            have hS2862 := hS2840.tr g2859 (by decide +kernel) (by decide +kernel)
                            have c2863 : I2856 a1 0 = v29 := (g2859.cell ta1 (by decide +kernel)).trans c2843
                            have c2864 : I2856 a1 1 = v33 := (g2859.cell ta1 (by decide +kernel)).trans c2844
                            have ov2865 := w2861.over (by rw [c2845]; omega)
                            obtain ⟨v2866, c2867⟩ : ∃ v, I2856 a0 9 = v := ⟨_, rfl⟩
                            have b2868 := iv15_9 hS2862.1 ta0 c2867
                            obtain ⟨v2869, c2870⟩ : ∃ v, I2856 a0 13 = v := ⟨_, rfl⟩
                            obtain ⟨v2871, c2872⟩ : ∃ v, I2856 a0 14 = v := ⟨_, rfl⟩
                            (try rw [c2867] at ov2865)
                            (try rw [c2870] at ov2865)
                            (try rw [c2872] at ov2865)
                            (try rw [c2845] at ov2865)
                            (try rw [c2846] at ov2865)
                            (try rw [c2847] at ov2865)
                            refine tr_aload_n dX12_readAlp_63 rfl ?_
                            refine tr_getR dX12_readAlp_64 fl12_188 (kR15 hS2862.1 ta0) d2 ?_
                            refine tr_getR dX12_readAlp_67 fl12_260 (kR14 hS2862.1 ta1) d306 ?_
                            refine tr_iload_n dX12_readAlp_70 rfl ?_
                            refine tr_aload_n dX12_readAlp_71 rfl ?_
                            refine q_iconst dX12_readAlp_72 (by decide) ?_
                            intro v2873 h2874
                            refine q_bipush dX12_readAlp_73 (by decide +kernel) ?_
                            intro v2875 h2876
                            refine q_callVi hE (M' := mX12_readWhole) (as := [_, _]) dX12_readAlp_75 lk12_161 inX12_readWhole seX12_readWhole myX12_readWhole (by decide) ⟨by decide, by decide⟩ rfl (kR15 hS2862.1 ta0) (Nat.le_of_ble_eq_true rfl) rfl rfl (by decide) (by decide) (k_X12_readWhole hS2862.1 ta0) ?_
                            rintro v2881 cn' K' N' I2877 R2878 L2879 ⟨rfl, rfl, rfl, rfl, g2880, p2882, w2883, -⟩
                            have hS2884 := hS2862.tr g2880 (by decide +kernel) (by decide +kernel)
                            have c2885 : I2877 a1 0 = v29 := (g2880.cell ta1 (by decide +kernel)).trans c2863
                            have c2886 : I2877 a1 1 = v33 := (g2880.cell ta1 (by decide +kernel)).trans c2864
                            have b2887 : 0 ≤ v2881.toInt ∧ v2881.toInt ≤ 99 := by omega
                            clear p2882
                            have ov2888 := w2883.over (by rw [c2867]; omega)
                            obtain ⟨v2889, c2890⟩ : ∃ v, I2877 a0 9 = v := ⟨_, rfl⟩
                            have b2891 := iv15_9 hS2884.1 ta0 c2890
                            obtain ⟨v2892, c2893⟩ : ∃ v, I2877 a0 13 = v := ⟨_, rfl⟩
                            obtain ⟨v2894, c2895⟩ : ∃ v, I2877 a0 14 = v := ⟨_, rfl⟩
                            (try rw [c2890] at ov2888)
                            (try rw [c2893] at ov2888)
                            (try rw [c2895] at ov2888)
                            (try rw [c2867] at ov2888)
                            (try rw [c2870] at ov2888)
                            (try rw [c2872] at ov2888)
                            refine q_iast dX12_readAlp_78 (kR53 hS2884.1 ta305) (ti_in (nR53 hS2884.1 ta305) (by omega) (by omega)) hS2884 ta305 (iokF rfl) rfl (by rfl) ?_
                            intro I2896 hS2897 e2899 f2898
                            have c2900 : I2896 a1 0 = v29 := (f2898 _ _ (fun q => by have z := ta1; rw [q.1, ta305] at z; exact absurd z (by decide))).trans c2885
                            have c2901 : I2896 a1 1 = v33 := (f2898 _ _ (fun q => by have z := ta1; rw [q.1, ta305] at z; exact absurd z (by decide))).trans c2886
                            have c2902 : I2896 a0 9 = v2889 := (f2898 _ _ (fun q => by have z := ta0; rw [q.1, ta305] at z; exact absurd z (by decide))).trans c2890
                            have c2903 : I2896 a0 13 = v2892 := (f2898 _ _ (fun q => by have z := ta0; rw [q.1, ta305] at z; exact absurd z (by decide))).trans c2893
                            have c2904 : I2896 a0 14 = v2894 := (f2898 _ _ (fun q => by have z := ta0; rw [q.1, ta305] at z; exact absurd z (by decide))).trans c2895
                            refine q_iincE dX12_readAlp_79 rfl (by decide) (by decide) (by intros; omega) ?_
                            intro v2905 h2906
                            refine tr_goto 48 dX12_readAlp_82 (by decide) ?_
                            refine tr_iload_n dX12_readAlp_48 rfl ?_
                            refine q_iconst dX12_readAlp_49 (by decide) ?_
                            intro v2907 h2908
                            refine q_icmp_ge 85 dX12_readAlp_50 (by decide) (fun h2909 => ?_) (fun h2909 => ?_)
                            · skip
                              exfalso; omega
                            · skip
                              refine tr_iload_n dX12_readAlp_53 rfl ?_
                              refine q_if_le 63 dX12_readAlp_54 (by decide) (fun h2910 => ?_) (fun h2910 => ?_)
                              · skip
                                exfalso; omega
                              · skip
                                refine tr_aload_n dX12_readAlp_57 rfl ?_
                                refine q_bipush dX12_readAlp_58 (by decide +kernel) ?_
                                intro v2911 h2912
                                refine q_callVv hE (M' := mX12_needsSign) (as := [_]) dX12_readAlp_60 lk12_257 inX12_needsSign seX12_needsSign myX12_needsSign (by decide) ⟨by decide, by decide⟩ rfl (kR15 hS2897.1 ta0) (Nat.le_of_ble_eq_true rfl) rfl rfl (by decide) (by decide) (k_X12_needsSign hS2897.1 ta0) ?_
                                rintro cn' K' N' I2913 R2914 L2915 ⟨rfl, rfl, rfl, rfl, g2916, w2918, -⟩
                                have hS2919 := hS2897.tr g2916 (by decide +kernel) (by decide +kernel)
                                have c2920 : I2913 a1 0 = v29 := (g2916.cell ta1 (by decide +kernel)).trans c2900
                                have c2921 : I2913 a1 1 = v33 := (g2916.cell ta1 (by decide +kernel)).trans c2901
                                have ov2922 := w2918.over (by rw [c2902]; omega)
                                obtain ⟨v2923, c2924⟩ : ∃ v, I2913 a0 9 = v := ⟨_, rfl⟩
                                have b2925 := iv15_9 hS2919.1 ta0 c2924
                                obtain ⟨v2926, c2927⟩ : ∃ v, I2913 a0 13 = v := ⟨_, rfl⟩
                                obtain ⟨v2928, c2929⟩ : ∃ v, I2913 a0 14 = v := ⟨_, rfl⟩
                                (try rw [c2924] at ov2922)
                                (try rw [c2927] at ov2922)
                                (try rw [c2929] at ov2922)
                                (try rw [c2902] at ov2922)
                                (try rw [c2903] at ov2922)
                                (try rw [c2904] at ov2922)
                                refine tr_aload_n dX12_readAlp_63 rfl ?_
                                refine tr_getR dX12_readAlp_64 fl12_188 (kR15 hS2919.1 ta0) d2 ?_
                                refine tr_getR dX12_readAlp_67 fl12_260 (kR14 hS2919.1 ta1) d306 ?_
                                refine tr_iload_n dX12_readAlp_70 rfl ?_
                                refine tr_aload_n dX12_readAlp_71 rfl ?_
                                refine q_iconst dX12_readAlp_72 (by decide) ?_
                                intro v2930 h2931
                                refine q_bipush dX12_readAlp_73 (by decide +kernel) ?_
                                intro v2932 h2933
                                refine q_callVi hE (M' := mX12_readWhole) (as := [_, _]) dX12_readAlp_75 lk12_161 inX12_readWhole seX12_readWhole myX12_readWhole (by decide) ⟨by decide, by decide⟩ rfl (kR15 hS2919.1 ta0) (Nat.le_of_ble_eq_true rfl) rfl rfl (by decide) (by decide) (k_X12_readWhole hS2919.1 ta0) ?_
                                rintro v2938 cn' K' N' I2934 R2935 L2936 ⟨rfl, rfl, rfl, rfl, g2937, p2939, w2940, -⟩
                                have hS2941 := hS2919.tr g2937 (by decide +kernel) (by decide +kernel)
                                have c2942 : I2934 a1 0 = v29 := (g2937.cell ta1 (by decide +kernel)).trans c2920
                                have c2943 : I2934 a1 1 = v33 := (g2937.cell ta1 (by decide +kernel)).trans c2921
                                have b2944 : 0 ≤ v2938.toInt ∧ v2938.toInt ≤ 99 := by omega
                                clear p2939
                                have ov2945 := w2940.over (by rw [c2924]; omega)
                                obtain ⟨v2946, c2947⟩ : ∃ v, I2934 a0 9 = v := ⟨_, rfl⟩
                                have b2948 := iv15_9 hS2941.1 ta0 c2947
                                obtain ⟨v2949, c2950⟩ : ∃ v, I2934 a0 13 = v := ⟨_, rfl⟩
                                obtain ⟨v2951, c2952⟩ : ∃ v, I2934 a0 14 = v := ⟨_, rfl⟩
                                (try rw [c2947] at ov2945)
                                (try rw [c2950] at ov2945)
                                (try rw [c2952] at ov2945)
                                (try rw [c2924] at ov2945)
                                (try rw [c2927] at ov2945)
                                (try rw [c2929] at ov2945)
                                refine q_iast dX12_readAlp_78 (kR53 hS2941.1 ta305) (ti_in (nR53 hS2941.1 ta305) (by omega) (by omega)) hS2941 ta305 (iokF rfl) rfl (by rfl) ?_
                                intro I2953 hS2954 e2956 f2955
                                have c2957 : I2953 a1 0 = v29 := (f2955 _ _ (fun q => by have z := ta1; rw [q.1, ta305] at z; exact absurd z (by decide))).trans c2942
                                have c2958 : I2953 a1 1 = v33 := (f2955 _ _ (fun q => by have z := ta1; rw [q.1, ta305] at z; exact absurd z (by decide))).trans c2943
                                have c2959 : I2953 a0 9 = v2946 := (f2955 _ _ (fun q => by have z := ta0; rw [q.1, ta305] at z; exact absurd z (by decide))).trans c2947
                                have c2960 : I2953 a0 13 = v2949 := (f2955 _ _ (fun q => by have z := ta0; rw [q.1, ta305] at z; exact absurd z (by decide))).trans c2950
                                have c2961 : I2953 a0 14 = v2951 := (f2955 _ _ (fun q => by have z := ta0; rw [q.1, ta305] at z; exact absurd z (by decide))).trans c2952
                                refine q_iincE dX12_readAlp_79 rfl (by decide) (by decide) (by intros; omega) ?_
                                intro v2962 h2963
                                refine tr_goto 48 dX12_readAlp_82 (by decide) ?_
                                refine tr_iload_n dX12_readAlp_48 rfl ?_
                                refine q_iconst dX12_readAlp_49 (by decide) ?_
                                intro v2964 h2965
                                refine q_icmp_ge 85 dX12_readAlp_50 (by decide) (fun h2966 => ?_) (fun h2966 => ?_)
                                · skip
                                  refine tr_aload_n dX12_readAlp_85 rfl ?_
                                  refine q_getI dX12_readAlp_86 fl12_99 (kR15 hS2954.1 ta0) c2959 ?_
                                  refine q_iconst dX12_readAlp_89 (by decide) ?_
                                  intro v2967 h2968
                                  refine q_icmp_ne 94 dX12_readAlp_90 (by decide) (fun h2969 => ?_) (fun h2969 => ?_)
                                  · skip
                                    exfalso; omega
                                  · skip
                                    have eF := hF.eq
                                    have eP := hP.eq
                                    obtain ⟨v2970, c2971⟩ : ∃ v, I2953 a0 10 = v := ⟨_, rfl⟩
                                    have b2972 := iv15_10 hS2954.1 ta0 c2971
                                    obtain ⟨v2973, c2974⟩ : ∃ v, I2953 a0 11 = v := ⟨_, rfl⟩
                                    obtain ⟨y2975, c2976⟩ : ∃ v, L2936 a0 15 = v := ⟨_, rfl⟩
                                    obtain ⟨v2977, c2978⟩ : ∃ v, I2953 a0 12 = v := ⟨_, rfl⟩
                                    obtain ⟨v2979, c2980⟩ : ∃ v, I2953 a0 8 = v := ⟨_, rfl⟩
                                    have b2981 := iv15_8 hS2954.1 ta0 c2980
                                    exact tr_vret hZ dX12_readAlp_93 rfl (by decide) (by decide) ⟨rfl, rfl, rfl, rfl, rfl, hS2954, (Or.inr (⟨(by (try rw [w106]); first | done | omega), (by (try rw [w106]); (try rw [c2959]); first | done | omega), (by (try rw [w106]); (try rw [c2960]); first | done | omega), (by (try rw [w106]); (try rw [c2961]); first | done | omega), trivial⟩)), trivial⟩
                                · skip
                                  exfalso; omega
            · skip
              exfalso; omega
        · skip
          obtain ⟨v2982, c2983⟩ : ∃ v, I254 a0 9 = v := ⟨_, rfl⟩
          have b2984 := iv15_9 hS262.1 ta0 c2983
          rw [c2983] at p277
          obtain ⟨v2985, c2986⟩ : ∃ v, I254 a0 13 = v := ⟨_, rfl⟩
          rw [c2986] at p278
          obtain ⟨v2987, c2988⟩ : ∃ v, I254 a0 14 = v := ⟨_, rfl⟩
          rw [c2988] at p279
          replace hF := hF.pos (by omega)
          replace hP := hP.pos (by omega)
          refine q_iconst dX12_readAlp_46 (by decide) ?_
          intro v2989 h2990
          refine tr_istore_n dX12_readAlp_47 (by decide) (by decide) ?_
          refine tr_iload_n dX12_readAlp_48 rfl ?_
          refine q_iconst dX12_readAlp_49 (by decide) ?_
          intro v2991 h2992
          refine q_icmp_ge 85 dX12_readAlp_50 (by decide) (fun h2993 => ?_) (fun h2993 => ?_)
          · skip
            exfalso; omega
          · skip
            refine tr_iload_n dX12_readAlp_53 rfl ?_
            refine q_if_le 63 dX12_readAlp_54 (by decide) (fun h2994 => ?_) (fun h2994 => ?_)
            · skip
              refine tr_aload_n dX12_readAlp_63 rfl ?_
              refine tr_getR dX12_readAlp_64 fl12_188 (kR15 hS262.1 ta0) d2 ?_
              obtain ⟨a2995, d2996, ta2995⟩ := rf14_10 hW0 ta1
              refine tr_getR dX12_readAlp_67 fl12_260 (kR14 hS262.1 ta1) d2996 ?_
              refine tr_iload_n dX12_readAlp_70 rfl ?_
              refine tr_aload_n dX12_readAlp_71 rfl ?_
              refine q_iconst dX12_readAlp_72 (by decide) ?_
              intro v2997 h2998
              refine q_bipush dX12_readAlp_73 (by decide +kernel) ?_
              intro v2999 h3000
              refine q_callVi hE (M' := mX12_readWhole) (as := [_, _]) dX12_readAlp_75 lk12_161 inX12_readWhole seX12_readWhole myX12_readWhole (by decide) ⟨by decide, by decide⟩ rfl (kR15 hS262.1 ta0) (Nat.le_of_ble_eq_true rfl) rfl rfl (by decide) (by decide) (k_X12_readWhole hS262.1 ta0) ?_
              rintro v3005 cn' K' N' I3001 R3002 L3003 ⟨rfl, rfl, rfl, rfl, g3004, p3006, w3007, -⟩
              have hS3008 := hS262.tr g3004 (by decide +kernel) (by decide +kernel)
              have c3009 : I3001 a1 0 = v29 := (g3004.cell ta1 (by decide +kernel)).trans c263
              have c3010 : I3001 a1 1 = v33 := (g3004.cell ta1 (by decide +kernel)).trans c264
              have b3011 : 0 ≤ v3005.toInt ∧ v3005.toInt ≤ 99 := by omega
              clear p3006
              have ov3012 := w3007.over (by rw [c2983]; omega)
              obtain ⟨v3013, c3014⟩ : ∃ v, I3001 a0 9 = v := ⟨_, rfl⟩
              have b3015 := iv15_9 hS3008.1 ta0 c3014
              obtain ⟨v3016, c3017⟩ : ∃ v, I3001 a0 13 = v := ⟨_, rfl⟩
              obtain ⟨v3018, c3019⟩ : ∃ v, I3001 a0 14 = v := ⟨_, rfl⟩
              (try rw [c3014] at ov3012)
              (try rw [c3017] at ov3012)
              (try rw [c3019] at ov3012)
              (try rw [c2983] at ov3012)
              (try rw [c2986] at ov3012)
              (try rw [c2988] at ov3012)
              refine q_iast dX12_readAlp_78 (kR53 hS3008.1 ta2995) (ti_in (nR53 hS3008.1 ta2995) (by omega) (by omega)) hS3008 ta2995 (iokF rfl) rfl (by rfl) ?_
              intro I3020 hS3021 e3023 f3022
              have c3024 : I3020 a1 0 = v29 := (f3022 _ _ (fun q => by have z := ta1; rw [q.1, ta2995] at z; exact absurd z (by decide))).trans c3009
              have c3025 : I3020 a1 1 = v33 := (f3022 _ _ (fun q => by have z := ta1; rw [q.1, ta2995] at z; exact absurd z (by decide))).trans c3010
              have c3026 : I3020 a0 9 = v3013 := (f3022 _ _ (fun q => by have z := ta0; rw [q.1, ta2995] at z; exact absurd z (by decide))).trans c3014
              have c3027 : I3020 a0 13 = v3016 := (f3022 _ _ (fun q => by have z := ta0; rw [q.1, ta2995] at z; exact absurd z (by decide))).trans c3017
              have c3028 : I3020 a0 14 = v3018 := (f3022 _ _ (fun q => by have z := ta0; rw [q.1, ta2995] at z; exact absurd z (by decide))).trans c3019
              refine q_iincE dX12_readAlp_79 rfl (by decide) (by decide) (by intros; omega) ?_
              intro v3029 h3030
              refine tr_goto 48 dX12_readAlp_82 (by decide) ?_
              refine tr_iload_n dX12_readAlp_48 rfl ?_
              refine q_iconst dX12_readAlp_49 (by decide) ?_
              intro v3031 h3032
              refine q_icmp_ge 85 dX12_readAlp_50 (by decide) (fun h3033 => ?_) (fun h3033 => ?_)
              · skip
                exfalso; omega
              · skip
                refine tr_iload_n dX12_readAlp_53 rfl ?_
                refine q_if_le 63 dX12_readAlp_54 (by decide) (fun h3034 => ?_) (fun h3034 => ?_)
                · skip
                  exfalso; omega
                · skip
                  refine tr_aload_n dX12_readAlp_57 rfl ?_
                  refine q_bipush dX12_readAlp_58 (by decide +kernel) ?_
                  intro v3035 h3036
                  refine q_callVv hE (M' := mX12_needsSign) (as := [_]) dX12_readAlp_60 lk12_257 inX12_needsSign seX12_needsSign myX12_needsSign (by decide) ⟨by decide, by decide⟩ rfl (kR15 hS3021.1 ta0) (Nat.le_of_ble_eq_true rfl) rfl rfl (by decide) (by decide) (k_X12_needsSign hS3021.1 ta0) ?_
                  rintro cn' K' N' I3037 R3038 L3039 ⟨rfl, rfl, rfl, rfl, g3040, w3042, -⟩
                  have hS3043 := hS3021.tr g3040 (by decide +kernel) (by decide +kernel)
                  have c3044 : I3037 a1 0 = v29 := (g3040.cell ta1 (by decide +kernel)).trans c3024
                  have c3045 : I3037 a1 1 = v33 := (g3040.cell ta1 (by decide +kernel)).trans c3025
                  have ov3046 := w3042.over (by rw [c3026]; omega)
                  obtain ⟨v3047, c3048⟩ : ∃ v, I3037 a0 9 = v := ⟨_, rfl⟩
                  have b3049 := iv15_9 hS3043.1 ta0 c3048
                  obtain ⟨v3050, c3051⟩ : ∃ v, I3037 a0 13 = v := ⟨_, rfl⟩
                  obtain ⟨v3052, c3053⟩ : ∃ v, I3037 a0 14 = v := ⟨_, rfl⟩
                  (try rw [c3048] at ov3046)
                  (try rw [c3051] at ov3046)
                  (try rw [c3053] at ov3046)
                  (try rw [c3026] at ov3046)
                  (try rw [c3027] at ov3046)
                  (try rw [c3028] at ov3046)
                  refine tr_aload_n dX12_readAlp_63 rfl ?_
                  refine tr_getR dX12_readAlp_64 fl12_188 (kR15 hS3043.1 ta0) d2 ?_
                  refine tr_getR dX12_readAlp_67 fl12_260 (kR14 hS3043.1 ta1) d2996 ?_
                  refine tr_iload_n dX12_readAlp_70 rfl ?_
                  refine tr_aload_n dX12_readAlp_71 rfl ?_
                  refine q_iconst dX12_readAlp_72 (by decide) ?_
                  intro v3054 h3055
                  refine q_bipush dX12_readAlp_73 (by decide +kernel) ?_
                  intro v3056 h3057
                  refine q_callVi hE (M' := mX12_readWhole) (as := [_, _]) dX12_readAlp_75 lk12_161 inX12_readWhole seX12_readWhole myX12_readWhole (by decide) ⟨by decide, by decide⟩ rfl (kR15 hS3043.1 ta0) (Nat.le_of_ble_eq_true rfl) rfl rfl (by decide) (by decide) (k_X12_readWhole hS3043.1 ta0) ?_
                  rintro v3062 cn' K' N' I3058 R3059 L3060 ⟨rfl, rfl, rfl, rfl, g3061, p3063, w3064, -⟩
                  have hS3065 := hS3043.tr g3061 (by decide +kernel) (by decide +kernel)
                  have c3066 : I3058 a1 0 = v29 := (g3061.cell ta1 (by decide +kernel)).trans c3044
                  have c3067 : I3058 a1 1 = v33 := (g3061.cell ta1 (by decide +kernel)).trans c3045
                  have b3068 : 0 ≤ v3062.toInt ∧ v3062.toInt ≤ 99 := by omega
                  clear p3063
                  have ov3069 := w3064.over (by rw [c3048]; omega)
                  obtain ⟨v3070, c3071⟩ : ∃ v, I3058 a0 9 = v := ⟨_, rfl⟩
                  have b3072 := iv15_9 hS3065.1 ta0 c3071
                  obtain ⟨v3073, c3074⟩ : ∃ v, I3058 a0 13 = v := ⟨_, rfl⟩
                  obtain ⟨v3075, c3076⟩ : ∃ v, I3058 a0 14 = v := ⟨_, rfl⟩
                  (try rw [c3071] at ov3069)
                  (try rw [c3074] at ov3069)
                  (try rw [c3076] at ov3069)
                  (try rw [c3048] at ov3069)
                  (try rw [c3051] at ov3069)
                  (try rw [c3053] at ov3069)
                  refine q_iast dX12_readAlp_78 (kR53 hS3065.1 ta2995) (ti_in (nR53 hS3065.1 ta2995) (by omega) (by omega)) hS3065 ta2995 (iokF rfl) rfl (by rfl) ?_
                  intro I3077 hS3078 e3080 f3079
                  have c3081 : I3077 a1 0 = v29 := (f3079 _ _ (fun q => by have z := ta1; rw [q.1, ta2995] at z; exact absurd z (by decide))).trans c3066
                  have c3082 : I3077 a1 1 = v33 := (f3079 _ _ (fun q => by have z := ta1; rw [q.1, ta2995] at z; exact absurd z (by decide))).trans c3067
                  have c3083 : I3077 a0 9 = v3070 := (f3079 _ _ (fun q => by have z := ta0; rw [q.1, ta2995] at z; exact absurd z (by decide))).trans c3071
                  have c3084 : I3077 a0 13 = v3073 := (f3079 _ _ (fun q => by have z := ta0; rw [q.1, ta2995] at z; exact absurd z (by decide))).trans c3074
                  have c3085 : I3077 a0 14 = v3075 := (f3079 _ _ (fun q => by have z := ta0; rw [q.1, ta2995] at z; exact absurd z (by decide))).trans c3076
                  refine q_iincE dX12_readAlp_79 rfl (by decide) (by decide) (by intros; omega) ?_
                  intro v3086 h3087
                  refine tr_goto 48 dX12_readAlp_82 (by decide) ?_
                  refine tr_iload_n dX12_readAlp_48 rfl ?_
                  refine q_iconst dX12_readAlp_49 (by decide) ?_
                  intro v3088 h3089
                  refine q_icmp_ge 85 dX12_readAlp_50 (by decide) (fun h3090 => ?_) (fun h3090 => ?_)
                  · skip
                    exfalso; omega
                  · skip
                    refine tr_iload_n dX12_readAlp_53 rfl ?_
                    refine q_if_le 63 dX12_readAlp_54 (by decide) (fun h3091 => ?_) (fun h3091 => ?_)
                    · skip
                      exfalso; omega
                    · skip
                      refine tr_aload_n dX12_readAlp_57 rfl ?_
                      refine q_bipush dX12_readAlp_58 (by decide +kernel) ?_
                      intro v3092 h3093
                      refine q_callVv hE (M' := mX12_needsSign) (as := [_]) dX12_readAlp_60 lk12_257 inX12_needsSign seX12_needsSign myX12_needsSign (by decide) ⟨by decide, by decide⟩ rfl (kR15 hS3078.1 ta0) (Nat.le_of_ble_eq_true rfl) rfl rfl (by decide) (by decide) (k_X12_needsSign hS3078.1 ta0) ?_
                      rintro cn' K' N' I3094 R3095 L3096 ⟨rfl, rfl, rfl, rfl, g3097, w3099, -⟩
                      have hS3100 := hS3078.tr g3097 (by decide +kernel) (by decide +kernel)
                      have c3101 : I3094 a1 0 = v29 := (g3097.cell ta1 (by decide +kernel)).trans c3081
                      have c3102 : I3094 a1 1 = v33 := (g3097.cell ta1 (by decide +kernel)).trans c3082
                      have ov3103 := w3099.over (by rw [c3083]; omega)
                      obtain ⟨v3104, c3105⟩ : ∃ v, I3094 a0 9 = v := ⟨_, rfl⟩
                      have b3106 := iv15_9 hS3100.1 ta0 c3105
                      obtain ⟨v3107, c3108⟩ : ∃ v, I3094 a0 13 = v := ⟨_, rfl⟩
                      obtain ⟨v3109, c3110⟩ : ∃ v, I3094 a0 14 = v := ⟨_, rfl⟩
                      (try rw [c3105] at ov3103)
                      (try rw [c3108] at ov3103)
                      (try rw [c3110] at ov3103)
                      (try rw [c3083] at ov3103)
                      (try rw [c3084] at ov3103)
                      (try rw [c3085] at ov3103)
                      refine tr_aload_n dX12_readAlp_63 rfl ?_
                      refine tr_getR dX12_readAlp_64 fl12_188 (kR15 hS3100.1 ta0) d2 ?_
                      refine tr_getR dX12_readAlp_67 fl12_260 (kR14 hS3100.1 ta1) d2996 ?_
                      refine tr_iload_n dX12_readAlp_70 rfl ?_
                      refine tr_aload_n dX12_readAlp_71 rfl ?_
                      refine q_iconst dX12_readAlp_72 (by decide) ?_
                      intro v3111 h3112
                      refine q_bipush dX12_readAlp_73 (by decide +kernel) ?_
                      intro v3113 h3114
                      refine q_callVi hE (M' := mX12_readWhole) (as := [_, _]) dX12_readAlp_75 lk12_161 inX12_readWhole seX12_readWhole myX12_readWhole (by decide) ⟨by decide, by decide⟩ rfl (kR15 hS3100.1 ta0) (Nat.le_of_ble_eq_true rfl) rfl rfl (by decide) (by decide) (k_X12_readWhole hS3100.1 ta0) ?_
                      rintro v3119 cn' K' N' I3115 R3116 L3117 ⟨rfl, rfl, rfl, rfl, g3118, p3120, w3121, -⟩
                      have hS3122 := hS3100.tr g3118 (by decide +kernel) (by decide +kernel)
                      have c3123 : I3115 a1 0 = v29 := (g3118.cell ta1 (by decide +kernel)).trans c3101
                      have c3124 : I3115 a1 1 = v33 := (g3118.cell ta1 (by decide +kernel)).trans c3102
                      have b3125 : 0 ≤ v3119.toInt ∧ v3119.toInt ≤ 99 := by omega
                      clear p3120
                      have ov3126 := w3121.over (by rw [c3105]; omega)
                      obtain ⟨v3127, c3128⟩ : ∃ v, I3115 a0 9 = v := ⟨_, rfl⟩
                      have b3129 := iv15_9 hS3122.1 ta0 c3128
                      obtain ⟨v3130, c3131⟩ : ∃ v, I3115 a0 13 = v := ⟨_, rfl⟩
                      obtain ⟨v3132, c3133⟩ : ∃ v, I3115 a0 14 = v := ⟨_, rfl⟩
                      (try rw [c3128] at ov3126)
                      (try rw [c3131] at ov3126)
                      (try rw [c3133] at ov3126)
                      (try rw [c3105] at ov3126)
                      (try rw [c3108] at ov3126)
                      (try rw [c3110] at ov3126)
                      refine q_iast dX12_readAlp_78 (kR53 hS3122.1 ta2995) (ti_in (nR53 hS3122.1 ta2995) (by omega) (by omega)) hS3122 ta2995 (iokF rfl) rfl (by rfl) ?_
                      intro I3134 hS3135 e3137 f3136
                      have c3138 : I3134 a1 0 = v29 := (f3136 _ _ (fun q => by have z := ta1; rw [q.1, ta2995] at z; exact absurd z (by decide))).trans c3123
                      have c3139 : I3134 a1 1 = v33 := (f3136 _ _ (fun q => by have z := ta1; rw [q.1, ta2995] at z; exact absurd z (by decide))).trans c3124
                      have c3140 : I3134 a0 9 = v3127 := (f3136 _ _ (fun q => by have z := ta0; rw [q.1, ta2995] at z; exact absurd z (by decide))).trans c3128
                      have c3141 : I3134 a0 13 = v3130 := (f3136 _ _ (fun q => by have z := ta0; rw [q.1, ta2995] at z; exact absurd z (by decide))).trans c3131
                      have c3142 : I3134 a0 14 = v3132 := (f3136 _ _ (fun q => by have z := ta0; rw [q.1, ta2995] at z; exact absurd z (by decide))).trans c3133
                      refine q_iincE dX12_readAlp_79 rfl (by decide) (by decide) (by intros; omega) ?_
                      intro v3143 h3144
                      refine tr_goto 48 dX12_readAlp_82 (by decide) ?_
                      refine tr_iload_n dX12_readAlp_48 rfl ?_
                      refine q_iconst dX12_readAlp_49 (by decide) ?_
                      intro v3145 h3146
                      refine q_icmp_ge 85 dX12_readAlp_50 (by decide) (fun h3147 => ?_) (fun h3147 => ?_)
                      · skip
                        exfalso; omega
                      · skip
                        refine tr_iload_n dX12_readAlp_53 rfl ?_
                        refine q_if_le 63 dX12_readAlp_54 (by decide) (fun h3148 => ?_) (fun h3148 => ?_)
                        · skip
                          exfalso; omega
                        · skip
                          refine tr_aload_n dX12_readAlp_57 rfl ?_
                          refine q_bipush dX12_readAlp_58 (by decide +kernel) ?_
                          intro v3149 h3150
                          refine q_callVv hE (M' := mX12_needsSign) (as := [_]) dX12_readAlp_60 lk12_257 inX12_needsSign seX12_needsSign myX12_needsSign (by decide) ⟨by decide, by decide⟩ rfl (kR15 hS3135.1 ta0) (Nat.le_of_ble_eq_true rfl) rfl rfl (by decide) (by decide) (k_X12_needsSign hS3135.1 ta0) ?_
                          rintro cn' K' N' I3151 R3152 L3153 ⟨rfl, rfl, rfl, rfl, g3154, w3156, -⟩
                          have hS3157 := hS3135.tr g3154 (by decide +kernel) (by decide +kernel)
                          have c3158 : I3151 a1 0 = v29 := (g3154.cell ta1 (by decide +kernel)).trans c3138
                          have c3159 : I3151 a1 1 = v33 := (g3154.cell ta1 (by decide +kernel)).trans c3139
                          have ov3160 := w3156.over (by rw [c3140]; omega)
                          obtain ⟨v3161, c3162⟩ : ∃ v, I3151 a0 9 = v := ⟨_, rfl⟩
                          have b3163 := iv15_9 hS3157.1 ta0 c3162
                          obtain ⟨v3164, c3165⟩ : ∃ v, I3151 a0 13 = v := ⟨_, rfl⟩
                          obtain ⟨v3166, c3167⟩ : ∃ v, I3151 a0 14 = v := ⟨_, rfl⟩
                          (try rw [c3162] at ov3160)
                          (try rw [c3165] at ov3160)
                          (try rw [c3167] at ov3160)
                          (try rw [c3140] at ov3160)
                          (try rw [c3141] at ov3160)
                          (try rw [c3142] at ov3160)
                          refine tr_aload_n dX12_readAlp_63 rfl ?_
                          refine tr_getR dX12_readAlp_64 fl12_188 (kR15 hS3157.1 ta0) d2 ?_
                          refine tr_getR dX12_readAlp_67 fl12_260 (kR14 hS3157.1 ta1) d2996 ?_
                          refine tr_iload_n dX12_readAlp_70 rfl ?_
                          refine tr_aload_n dX12_readAlp_71 rfl ?_
                          refine q_iconst dX12_readAlp_72 (by decide) ?_
                          intro v3168 h3169
                          refine q_bipush dX12_readAlp_73 (by decide +kernel) ?_
                          intro v3170 h3171
                          refine q_callVi hE (M' := mX12_readWhole) (as := [_, _]) dX12_readAlp_75 lk12_161 inX12_readWhole seX12_readWhole myX12_readWhole (by decide) ⟨by decide, by decide⟩ rfl (kR15 hS3157.1 ta0) (Nat.le_of_ble_eq_true rfl) rfl rfl (by decide) (by decide) (k_X12_readWhole hS3157.1 ta0) ?_
                          rintro v3176 cn' K' N' I3172 R3173 L3174 ⟨rfl, rfl, rfl, rfl, g3175, p3177, w3178, -⟩
                          have hS3179 := hS3157.tr g3175 (by decide +kernel) (by decide +kernel)
                          have c3180 : I3172 a1 0 = v29 := (g3175.cell ta1 (by decide +kernel)).trans c3158
                          have c3181 : I3172 a1 1 = v33 := (g3175.cell ta1 (by decide +kernel)).trans c3159
                          have b3182 : 0 ≤ v3176.toInt ∧ v3176.toInt ≤ 99 := by omega
                          clear p3177
                          have ov3183 := w3178.over (by rw [c3162]; omega)
                          obtain ⟨v3184, c3185⟩ : ∃ v, I3172 a0 9 = v := ⟨_, rfl⟩
                          have b3186 := iv15_9 hS3179.1 ta0 c3185
                          obtain ⟨v3187, c3188⟩ : ∃ v, I3172 a0 13 = v := ⟨_, rfl⟩
                          obtain ⟨v3189, c3190⟩ : ∃ v, I3172 a0 14 = v := ⟨_, rfl⟩
                          (try rw [c3185] at ov3183)
                          (try rw [c3188] at ov3183)
                          (try rw [c3190] at ov3183)
                          (try rw [c3162] at ov3183)
                          (try rw [c3165] at ov3183)
                          (try rw [c3167] at ov3183)
                          refine q_iast dX12_readAlp_78 (kR53 hS3179.1 ta2995) (ti_in (nR53 hS3179.1 ta2995) (by omega) (by omega)) hS3179 ta2995 (iokF rfl) rfl (by rfl) ?_
                          intro I3191 hS3192 e3194 f3193
                          have c3195 : I3191 a1 0 = v29 := (f3193 _ _ (fun q => by have z := ta1; rw [q.1, ta2995] at z; exact absurd z (by decide))).trans c3180
                          have c3196 : I3191 a1 1 = v33 := (f3193 _ _ (fun q => by have z := ta1; rw [q.1, ta2995] at z; exact absurd z (by decide))).trans c3181
                          have c3197 : I3191 a0 9 = v3184 := (f3193 _ _ (fun q => by have z := ta0; rw [q.1, ta2995] at z; exact absurd z (by decide))).trans c3185
                          have c3198 : I3191 a0 13 = v3187 := (f3193 _ _ (fun q => by have z := ta0; rw [q.1, ta2995] at z; exact absurd z (by decide))).trans c3188
                          have c3199 : I3191 a0 14 = v3189 := (f3193 _ _ (fun q => by have z := ta0; rw [q.1, ta2995] at z; exact absurd z (by decide))).trans c3190
                          refine q_iincE dX12_readAlp_79 rfl (by decide) (by decide) (by intros; omega) ?_
                          intro v3200 h3201
                          refine tr_goto 48 dX12_readAlp_82 (by decide) ?_
                          refine tr_iload_n dX12_readAlp_48 rfl ?_
                          refine q_iconst dX12_readAlp_49 (by decide) ?_
                          intro v3202 h3203
                          refine q_icmp_ge 85 dX12_readAlp_50 (by decide) (fun h3204 => ?_) (fun h3204 => ?_)
                          · skip
                            exfalso; omega
                          · skip
                            refine tr_iload_n dX12_readAlp_53 rfl ?_
                            refine q_if_le 63 dX12_readAlp_54 (by decide) (fun h3205 => ?_) (fun h3205 => ?_)
                            · skip
                              exfalso; omega
                            · skip
                              refine tr_aload_n dX12_readAlp_57 rfl ?_
                              refine q_bipush dX12_readAlp_58 (by decide +kernel) ?_
                              intro v3206 h3207
                              refine q_callVv hE (M' := mX12_needsSign) (as := [_]) dX12_readAlp_60 lk12_257 inX12_needsSign seX12_needsSign myX12_needsSign (by decide) ⟨by decide, by decide⟩ rfl (kR15 hS3192.1 ta0) (Nat.le_of_ble_eq_true rfl) rfl rfl (by decide) (by decide) (k_X12_needsSign hS3192.1 ta0) ?_
                              rintro cn' K' N' I3208 R3209 L3210 ⟨rfl, rfl, rfl, rfl, g3211, w3213, -⟩
                              have hS3214 := hS3192.tr g3211 (by decide +kernel) (by decide +kernel)
                              have c3215 : I3208 a1 0 = v29 := (g3211.cell ta1 (by decide +kernel)).trans c3195
                              have c3216 : I3208 a1 1 = v33 := (g3211.cell ta1 (by decide +kernel)).trans c3196
                              have ov3217 := w3213.over (by rw [c3197]; omega)
                              obtain ⟨v3218, c3219⟩ : ∃ v, I3208 a0 9 = v := ⟨_, rfl⟩
                              have b3220 := iv15_9 hS3214.1 ta0 c3219
                              obtain ⟨v3221, c3222⟩ : ∃ v, I3208 a0 13 = v := ⟨_, rfl⟩
                              obtain ⟨v3223, c3224⟩ : ∃ v, I3208 a0 14 = v := ⟨_, rfl⟩
                              (try rw [c3219] at ov3217)
                              (try rw [c3222] at ov3217)
                              (try rw [c3224] at ov3217)
                              (try rw [c3197] at ov3217)
                              (try rw [c3198] at ov3217)
                              (try rw [c3199] at ov3217)
                              refine tr_aload_n dX12_readAlp_63 rfl ?_
                              refine tr_getR dX12_readAlp_64 fl12_188 (kR15 hS3214.1 ta0) d2 ?_
                              refine tr_getR dX12_readAlp_67 fl12_260 (kR14 hS3214.1 ta1) d2996 ?_
                              refine tr_iload_n dX12_readAlp_70 rfl ?_
                              refine tr_aload_n dX12_readAlp_71 rfl ?_
                              refine q_iconst dX12_readAlp_72 (by decide) ?_
                              intro v3225 h3226
                              refine q_bipush dX12_readAlp_73 (by decide +kernel) ?_
                              intro v3227 h3228
                              refine q_callVi hE (M' := mX12_readWhole) (as := [_, _]) dX12_readAlp_75 lk12_161 inX12_readWhole seX12_readWhole myX12_readWhole (by decide) ⟨by decide, by decide⟩ rfl (kR15 hS3214.1 ta0) (Nat.le_of_ble_eq_true rfl) rfl rfl (by decide) (by decide) (k_X12_readWhole hS3214.1 ta0) ?_
                              rintro v3233 cn' K' N' I3229 R3230 L3231 ⟨rfl, rfl, rfl, rfl, g3232, p3234, w3235, -⟩
                              have hS3236 := hS3214.tr g3232 (by decide +kernel) (by decide +kernel)
                              have c3237 : I3229 a1 0 = v29 := (g3232.cell ta1 (by decide +kernel)).trans c3215
                              have c3238 : I3229 a1 1 = v33 := (g3232.cell ta1 (by decide +kernel)).trans c3216
                              have b3239 : 0 ≤ v3233.toInt ∧ v3233.toInt ≤ 99 := by omega
                              clear p3234
                              have ov3240 := w3235.over (by rw [c3219]; omega)
                              obtain ⟨v3241, c3242⟩ : ∃ v, I3229 a0 9 = v := ⟨_, rfl⟩
                              have b3243 := iv15_9 hS3236.1 ta0 c3242
                              obtain ⟨v3244, c3245⟩ : ∃ v, I3229 a0 13 = v := ⟨_, rfl⟩
                              obtain ⟨v3246, c3247⟩ : ∃ v, I3229 a0 14 = v := ⟨_, rfl⟩
                              (try rw [c3242] at ov3240)
                              (try rw [c3245] at ov3240)
                              (try rw [c3247] at ov3240)
                              (try rw [c3219] at ov3240)
                              (try rw [c3222] at ov3240)
                              (try rw [c3224] at ov3240)
                              refine q_iast dX12_readAlp_78 (kR53 hS3236.1 ta2995) (ti_in (nR53 hS3236.1 ta2995) (by omega) (by omega)) hS3236 ta2995 (iokF rfl) rfl (by rfl) ?_
                              intro I3248 hS3249 e3251 f3250
                              have c3252 : I3248 a1 0 = v29 := (f3250 _ _ (fun q => by have z := ta1; rw [q.1, ta2995] at z; exact absurd z (by decide))).trans c3237
                              have c3253 : I3248 a1 1 = v33 := (f3250 _ _ (fun q => by have z := ta1; rw [q.1, ta2995] at z; exact absurd z (by decide))).trans c3238
                              have c3254 : I3248 a0 9 = v3241 := (f3250 _ _ (fun q => by have z := ta0; rw [q.1, ta2995] at z; exact absurd z (by decide))).trans c3242
                              have c3255 : I3248 a0 13 = v3244 := (f3250 _ _ (fun q => by have z := ta0; rw [q.1, ta2995] at z; exact absurd z (by decide))).trans c3245
                              have c3256 : I3248 a0 14 = v3246 := (f3250 _ _ (fun q => by have z := ta0; rw [q.1, ta2995] at z; exact absurd z (by decide))).trans c3247
                              refine q_iincE dX12_readAlp_79 rfl (by decide) (by decide) (by intros; omega) ?_
                              intro v3257 h3258
                              refine tr_goto 48 dX12_readAlp_82 (by decide) ?_
                              refine tr_iload_n dX12_readAlp_48 rfl ?_
                              refine q_iconst dX12_readAlp_49 (by decide) ?_
                              intro v3259 h3260
                              refine q_icmp_ge 85 dX12_readAlp_50 (by decide) (fun h3261 => ?_) (fun h3261 => ?_)
                              · skip
                                refine tr_aload_n dX12_readAlp_85 rfl ?_
                                refine q_getI dX12_readAlp_86 fl12_99 (kR15 hS3249.1 ta0) c3254 ?_
                                refine q_iconst dX12_readAlp_89 (by decide) ?_
                                intro v3262 h3263
                                refine q_icmp_ne 94 dX12_readAlp_90 (by decide) (fun h3264 => ?_) (fun h3264 => ?_)
                                · skip
                                  exfalso; omega
                                · skip
                                  have eF := hF.eq
                                  have eP := hP.eq
                                  obtain ⟨v3265, c3266⟩ : ∃ v, I3248 a0 10 = v := ⟨_, rfl⟩
                                  have b3267 := iv15_10 hS3249.1 ta0 c3266
                                  obtain ⟨v3268, c3269⟩ : ∃ v, I3248 a0 11 = v := ⟨_, rfl⟩
                                  obtain ⟨y3270, c3271⟩ : ∃ v, L3231 a0 15 = v := ⟨_, rfl⟩
                                  obtain ⟨v3272, c3273⟩ : ∃ v, I3248 a0 12 = v := ⟨_, rfl⟩
                                  obtain ⟨v3274, c3275⟩ : ∃ v, I3248 a0 8 = v := ⟨_, rfl⟩
                                  have b3276 := iv15_8 hS3249.1 ta0 c3275
                                  exact tr_vret hZ dX12_readAlp_93 rfl (by decide) (by decide) ⟨rfl, rfl, rfl, rfl, rfl, hS3249, (Or.inr (⟨(by (try rw [w106]); first | done | omega), (by (try rw [w106]); (try rw [c3254]); first | done | omega), (by (try rw [w106]); (try rw [c3255]); first | done | omega), (by (try rw [w106]); (try rw [c3256]); first | done | omega), trivial⟩)), trivial⟩
                              · skip
                                exfalso; omega
            · skip
              exfalso; omega
      · skip
        obtain ⟨v3277, c3278⟩ : ∃ v, I189 a0 9 = v := ⟨_, rfl⟩
        have b3279 := iv15_9 hS197.1 ta0 c3278
        rw [c3278] at p217
        obtain ⟨v3280, c3281⟩ : ∃ v, I189 a0 13 = v := ⟨_, rfl⟩
        rw [c3281] at p218
        obtain ⟨v3282, c3283⟩ : ∃ v, I189 a0 14 = v := ⟨_, rfl⟩
        rw [c3283] at p219
        replace hF := hF.pos (by omega)
        replace hP := hP.pos (by omega)
        refine tr_istore_n dX12_readAlp_39 (by decide) (by decide) ?_
        refine tr_aload_n dX12_readAlp_40 rfl ?_
        refine tr_ldcS dX12_readAlp_41 ld12_255 ?_
        refine q_callVv hE (M' := mX12_needs) (as := [_]) dX12_readAlp_43 lk12_157 inX12_needs seX12_needs myX12_needs (by decide) ⟨by decide, by decide⟩ rfl (kR15 hS197.1 ta0) (Nat.le_of_ble_eq_true rfl) rfl rfl (by decide) (by decide) (k_X12_needs hS197.1 ta0 (by decide)) ?_
        rintro cn' K' N' I3284 R3285 L3286 ⟨rfl, rfl, rfl, rfl, g3287, w3289, -⟩
        have hS3290 := hS197.tr g3287 (by decide +kernel) (by decide +kernel)
        have c3291 : I3284 a1 0 = v29 := (g3287.cell ta1 (by decide +kernel)).trans c198
        have c3292 : I3284 a1 1 = v33 := (g3287.cell ta1 (by decide +kernel)).trans c199
        have ov3293 := w3289.over (by rw [c3278]; omega)
        obtain ⟨v3294, c3295⟩ : ∃ v, I3284 a0 9 = v := ⟨_, rfl⟩
        have b3296 := iv15_9 hS3290.1 ta0 c3295
        obtain ⟨v3297, c3298⟩ : ∃ v, I3284 a0 13 = v := ⟨_, rfl⟩
        obtain ⟨v3299, c3300⟩ : ∃ v, I3284 a0 14 = v := ⟨_, rfl⟩
        (try rw [c3295] at ov3293)
        (try rw [c3298] at ov3293)
        (try rw [c3300] at ov3293)
        (try rw [c3278] at ov3293)
        (try rw [c3281] at ov3293)
        (try rw [c3283] at ov3293)
        refine q_iconst dX12_readAlp_46 (by decide) ?_
        intro v3301 h3302
        refine tr_istore_n dX12_readAlp_47 (by decide) (by decide) ?_
        refine tr_iload_n dX12_readAlp_48 rfl ?_
        refine q_iconst dX12_readAlp_49 (by decide) ?_
        intro v3303 h3304
        refine q_icmp_ge 85 dX12_readAlp_50 (by decide) (fun h3305 => ?_) (fun h3305 => ?_)
        · skip
          exfalso; omega
        · skip
          refine tr_iload_n dX12_readAlp_53 rfl ?_
          refine q_if_le 63 dX12_readAlp_54 (by decide) (fun h3306 => ?_) (fun h3306 => ?_)
          · skip
            refine tr_aload_n dX12_readAlp_63 rfl ?_
            refine tr_getR dX12_readAlp_64 fl12_188 (kR15 hS3290.1 ta0) d2 ?_
            obtain ⟨a3307, d3308, ta3307⟩ := rf14_10 hW0 ta1
            refine tr_getR dX12_readAlp_67 fl12_260 (kR14 hS3290.1 ta1) d3308 ?_
            refine tr_iload_n dX12_readAlp_70 rfl ?_
            refine tr_aload_n dX12_readAlp_71 rfl ?_
            refine q_iconst dX12_readAlp_72 (by decide) ?_
            intro v3309 h3310
            refine q_bipush dX12_readAlp_73 (by decide +kernel) ?_
            intro v3311 h3312
            refine q_callVi hE (M' := mX12_readWhole) (as := [_, _]) dX12_readAlp_75 lk12_161 inX12_readWhole seX12_readWhole myX12_readWhole (by decide) ⟨by decide, by decide⟩ rfl (kR15 hS3290.1 ta0) (Nat.le_of_ble_eq_true rfl) rfl rfl (by decide) (by decide) (k_X12_readWhole hS3290.1 ta0) ?_
            rintro v3317 cn' K' N' I3313 R3314 L3315 ⟨rfl, rfl, rfl, rfl, g3316, p3318, w3319, -⟩
            have hS3320 := hS3290.tr g3316 (by decide +kernel) (by decide +kernel)
            have c3321 : I3313 a1 0 = v29 := (g3316.cell ta1 (by decide +kernel)).trans c3291
            have c3322 : I3313 a1 1 = v33 := (g3316.cell ta1 (by decide +kernel)).trans c3292
            have b3323 : 0 ≤ v3317.toInt ∧ v3317.toInt ≤ 99 := by omega
            clear p3318
            have ov3324 := w3319.over (by rw [c3295]; omega)
            obtain ⟨v3325, c3326⟩ : ∃ v, I3313 a0 9 = v := ⟨_, rfl⟩
            have b3327 := iv15_9 hS3320.1 ta0 c3326
            obtain ⟨v3328, c3329⟩ : ∃ v, I3313 a0 13 = v := ⟨_, rfl⟩
            obtain ⟨v3330, c3331⟩ : ∃ v, I3313 a0 14 = v := ⟨_, rfl⟩
            (try rw [c3326] at ov3324)
            (try rw [c3329] at ov3324)
            (try rw [c3331] at ov3324)
            (try rw [c3295] at ov3324)
            (try rw [c3298] at ov3324)
            (try rw [c3300] at ov3324)
            refine q_iast dX12_readAlp_78 (kR53 hS3320.1 ta3307) (ti_in (nR53 hS3320.1 ta3307) (by omega) (by omega)) hS3320 ta3307 (iokF rfl) rfl (by rfl) ?_
            intro I3332 hS3333 e3335 f3334
            have c3336 : I3332 a1 0 = v29 := (f3334 _ _ (fun q => by have z := ta1; rw [q.1, ta3307] at z; exact absurd z (by decide))).trans c3321
            have c3337 : I3332 a1 1 = v33 := (f3334 _ _ (fun q => by have z := ta1; rw [q.1, ta3307] at z; exact absurd z (by decide))).trans c3322
            have c3338 : I3332 a0 9 = v3325 := (f3334 _ _ (fun q => by have z := ta0; rw [q.1, ta3307] at z; exact absurd z (by decide))).trans c3326
            have c3339 : I3332 a0 13 = v3328 := (f3334 _ _ (fun q => by have z := ta0; rw [q.1, ta3307] at z; exact absurd z (by decide))).trans c3329
            have c3340 : I3332 a0 14 = v3330 := (f3334 _ _ (fun q => by have z := ta0; rw [q.1, ta3307] at z; exact absurd z (by decide))).trans c3331
            refine q_iincE dX12_readAlp_79 rfl (by decide) (by decide) (by intros; omega) ?_
            intro v3341 h3342
            refine tr_goto 48 dX12_readAlp_82 (by decide) ?_
            refine tr_iload_n dX12_readAlp_48 rfl ?_
            refine q_iconst dX12_readAlp_49 (by decide) ?_
            intro v3343 h3344
            refine q_icmp_ge 85 dX12_readAlp_50 (by decide) (fun h3345 => ?_) (fun h3345 => ?_)
            · skip
              exfalso; omega
            · skip
              refine tr_iload_n dX12_readAlp_53 rfl ?_
              refine q_if_le 63 dX12_readAlp_54 (by decide) (fun h3346 => ?_) (fun h3346 => ?_)
              · skip
                exfalso; omega
              · skip
                refine tr_aload_n dX12_readAlp_57 rfl ?_
                refine q_bipush dX12_readAlp_58 (by decide +kernel) ?_
                intro v3347 h3348
                refine q_callVv hE (M' := mX12_needsSign) (as := [_]) dX12_readAlp_60 lk12_257 inX12_needsSign seX12_needsSign myX12_needsSign (by decide) ⟨by decide, by decide⟩ rfl (kR15 hS3333.1 ta0) (Nat.le_of_ble_eq_true rfl) rfl rfl (by decide) (by decide) (k_X12_needsSign hS3333.1 ta0) ?_
                rintro cn' K' N' I3349 R3350 L3351 ⟨rfl, rfl, rfl, rfl, g3352, w3354, -⟩
                have hS3355 := hS3333.tr g3352 (by decide +kernel) (by decide +kernel)
                have c3356 : I3349 a1 0 = v29 := (g3352.cell ta1 (by decide +kernel)).trans c3336
                have c3357 : I3349 a1 1 = v33 := (g3352.cell ta1 (by decide +kernel)).trans c3337
                have ov3358 := w3354.over (by rw [c3338]; omega)
                obtain ⟨v3359, c3360⟩ : ∃ v, I3349 a0 9 = v := ⟨_, rfl⟩
                have b3361 := iv15_9 hS3355.1 ta0 c3360
                obtain ⟨v3362, c3363⟩ : ∃ v, I3349 a0 13 = v := ⟨_, rfl⟩
                obtain ⟨v3364, c3365⟩ : ∃ v, I3349 a0 14 = v := ⟨_, rfl⟩
                (try rw [c3360] at ov3358)
                (try rw [c3363] at ov3358)
                (try rw [c3365] at ov3358)
                (try rw [c3338] at ov3358)
                (try rw [c3339] at ov3358)
                (try rw [c3340] at ov3358)
                refine tr_aload_n dX12_readAlp_63 rfl ?_
                refine tr_getR dX12_readAlp_64 fl12_188 (kR15 hS3355.1 ta0) d2 ?_
                refine tr_getR dX12_readAlp_67 fl12_260 (kR14 hS3355.1 ta1) d3308 ?_
                refine tr_iload_n dX12_readAlp_70 rfl ?_
                refine tr_aload_n dX12_readAlp_71 rfl ?_
                refine q_iconst dX12_readAlp_72 (by decide) ?_
                intro v3366 h3367
                refine q_bipush dX12_readAlp_73 (by decide +kernel) ?_
                intro v3368 h3369
                refine q_callVi hE (M' := mX12_readWhole) (as := [_, _]) dX12_readAlp_75 lk12_161 inX12_readWhole seX12_readWhole myX12_readWhole (by decide) ⟨by decide, by decide⟩ rfl (kR15 hS3355.1 ta0) (Nat.le_of_ble_eq_true rfl) rfl rfl (by decide) (by decide) (k_X12_readWhole hS3355.1 ta0) ?_
                rintro v3374 cn' K' N' I3370 R3371 L3372 ⟨rfl, rfl, rfl, rfl, g3373, p3375, w3376, -⟩
                have hS3377 := hS3355.tr g3373 (by decide +kernel) (by decide +kernel)
                have c3378 : I3370 a1 0 = v29 := (g3373.cell ta1 (by decide +kernel)).trans c3356
                have c3379 : I3370 a1 1 = v33 := (g3373.cell ta1 (by decide +kernel)).trans c3357
                have b3380 : 0 ≤ v3374.toInt ∧ v3374.toInt ≤ 99 := by omega
                clear p3375
                have ov3381 := w3376.over (by rw [c3360]; omega)
                obtain ⟨v3382, c3383⟩ : ∃ v, I3370 a0 9 = v := ⟨_, rfl⟩
                have b3384 := iv15_9 hS3377.1 ta0 c3383
                obtain ⟨v3385, c3386⟩ : ∃ v, I3370 a0 13 = v := ⟨_, rfl⟩
                obtain ⟨v3387, c3388⟩ : ∃ v, I3370 a0 14 = v := ⟨_, rfl⟩
                (try rw [c3383] at ov3381)
                (try rw [c3386] at ov3381)
                (try rw [c3388] at ov3381)
                (try rw [c3360] at ov3381)
                (try rw [c3363] at ov3381)
                (try rw [c3365] at ov3381)
                refine q_iast dX12_readAlp_78 (kR53 hS3377.1 ta3307) (ti_in (nR53 hS3377.1 ta3307) (by omega) (by omega)) hS3377 ta3307 (iokF rfl) rfl (by rfl) ?_
                intro I3389 hS3390 e3392 f3391
                have c3393 : I3389 a1 0 = v29 := (f3391 _ _ (fun q => by have z := ta1; rw [q.1, ta3307] at z; exact absurd z (by decide))).trans c3378
                have c3394 : I3389 a1 1 = v33 := (f3391 _ _ (fun q => by have z := ta1; rw [q.1, ta3307] at z; exact absurd z (by decide))).trans c3379
                have c3395 : I3389 a0 9 = v3382 := (f3391 _ _ (fun q => by have z := ta0; rw [q.1, ta3307] at z; exact absurd z (by decide))).trans c3383
                have c3396 : I3389 a0 13 = v3385 := (f3391 _ _ (fun q => by have z := ta0; rw [q.1, ta3307] at z; exact absurd z (by decide))).trans c3386
                have c3397 : I3389 a0 14 = v3387 := (f3391 _ _ (fun q => by have z := ta0; rw [q.1, ta3307] at z; exact absurd z (by decide))).trans c3388
                refine q_iincE dX12_readAlp_79 rfl (by decide) (by decide) (by intros; omega) ?_
                intro v3398 h3399
                refine tr_goto 48 dX12_readAlp_82 (by decide) ?_
                refine tr_iload_n dX12_readAlp_48 rfl ?_
                refine q_iconst dX12_readAlp_49 (by decide) ?_
                intro v3400 h3401
                refine q_icmp_ge 85 dX12_readAlp_50 (by decide) (fun h3402 => ?_) (fun h3402 => ?_)
                · skip
                  exfalso; omega
                · skip
                  refine tr_iload_n dX12_readAlp_53 rfl ?_
                  refine q_if_le 63 dX12_readAlp_54 (by decide) (fun h3403 => ?_) (fun h3403 => ?_)
                  · skip
                    exfalso; omega
                  · skip
                    refine tr_aload_n dX12_readAlp_57 rfl ?_
                    refine q_bipush dX12_readAlp_58 (by decide +kernel) ?_
                    intro v3404 h3405
                    refine q_callVv hE (M' := mX12_needsSign) (as := [_]) dX12_readAlp_60 lk12_257 inX12_needsSign seX12_needsSign myX12_needsSign (by decide) ⟨by decide, by decide⟩ rfl (kR15 hS3390.1 ta0) (Nat.le_of_ble_eq_true rfl) rfl rfl (by decide) (by decide) (k_X12_needsSign hS3390.1 ta0) ?_
                    rintro cn' K' N' I3406 R3407 L3408 ⟨rfl, rfl, rfl, rfl, g3409, w3411, -⟩
                    have hS3412 := hS3390.tr g3409 (by decide +kernel) (by decide +kernel)
                    have c3413 : I3406 a1 0 = v29 := (g3409.cell ta1 (by decide +kernel)).trans c3393
                    have c3414 : I3406 a1 1 = v33 := (g3409.cell ta1 (by decide +kernel)).trans c3394
                    have ov3415 := w3411.over (by rw [c3395]; omega)
                    obtain ⟨v3416, c3417⟩ : ∃ v, I3406 a0 9 = v := ⟨_, rfl⟩
                    have b3418 := iv15_9 hS3412.1 ta0 c3417
                    obtain ⟨v3419, c3420⟩ : ∃ v, I3406 a0 13 = v := ⟨_, rfl⟩
                    obtain ⟨v3421, c3422⟩ : ∃ v, I3406 a0 14 = v := ⟨_, rfl⟩
                    (try rw [c3417] at ov3415)
                    (try rw [c3420] at ov3415)
                    (try rw [c3422] at ov3415)
                    (try rw [c3395] at ov3415)
                    (try rw [c3396] at ov3415)
                    (try rw [c3397] at ov3415)
                    refine tr_aload_n dX12_readAlp_63 rfl ?_
                    refine tr_getR dX12_readAlp_64 fl12_188 (kR15 hS3412.1 ta0) d2 ?_
                    refine tr_getR dX12_readAlp_67 fl12_260 (kR14 hS3412.1 ta1) d3308 ?_
                    refine tr_iload_n dX12_readAlp_70 rfl ?_
                    refine tr_aload_n dX12_readAlp_71 rfl ?_
                    refine q_iconst dX12_readAlp_72 (by decide) ?_
                    intro v3423 h3424
                    refine q_bipush dX12_readAlp_73 (by decide +kernel) ?_
                    intro v3425 h3426
                    refine q_callVi hE (M' := mX12_readWhole) (as := [_, _]) dX12_readAlp_75 lk12_161 inX12_readWhole seX12_readWhole myX12_readWhole (by decide) ⟨by decide, by decide⟩ rfl (kR15 hS3412.1 ta0) (Nat.le_of_ble_eq_true rfl) rfl rfl (by decide) (by decide) (k_X12_readWhole hS3412.1 ta0) ?_
                    rintro v3431 cn' K' N' I3427 R3428 L3429 ⟨rfl, rfl, rfl, rfl, g3430, p3432, w3433, -⟩
                    have hS3434 := hS3412.tr g3430 (by decide +kernel) (by decide +kernel)
                    have c3435 : I3427 a1 0 = v29 := (g3430.cell ta1 (by decide +kernel)).trans c3413
                    have c3436 : I3427 a1 1 = v33 := (g3430.cell ta1 (by decide +kernel)).trans c3414
                    have b3437 : 0 ≤ v3431.toInt ∧ v3431.toInt ≤ 99 := by omega
                    clear p3432
                    have ov3438 := w3433.over (by rw [c3417]; omega)
                    obtain ⟨v3439, c3440⟩ : ∃ v, I3427 a0 9 = v := ⟨_, rfl⟩
                    have b3441 := iv15_9 hS3434.1 ta0 c3440
                    obtain ⟨v3442, c3443⟩ : ∃ v, I3427 a0 13 = v := ⟨_, rfl⟩
                    obtain ⟨v3444, c3445⟩ : ∃ v, I3427 a0 14 = v := ⟨_, rfl⟩
                    (try rw [c3440] at ov3438)
                    (try rw [c3443] at ov3438)
                    (try rw [c3445] at ov3438)
                    (try rw [c3417] at ov3438)
                    (try rw [c3420] at ov3438)
                    (try rw [c3422] at ov3438)
                    refine q_iast dX12_readAlp_78 (kR53 hS3434.1 ta3307) (ti_in (nR53 hS3434.1 ta3307) (by omega) (by omega)) hS3434 ta3307 (iokF rfl) rfl (by rfl) ?_
                    intro I3446 hS3447 e3449 f3448
                    have c3450 : I3446 a1 0 = v29 := (f3448 _ _ (fun q => by have z := ta1; rw [q.1, ta3307] at z; exact absurd z (by decide))).trans c3435
                    have c3451 : I3446 a1 1 = v33 := (f3448 _ _ (fun q => by have z := ta1; rw [q.1, ta3307] at z; exact absurd z (by decide))).trans c3436
                    have c3452 : I3446 a0 9 = v3439 := (f3448 _ _ (fun q => by have z := ta0; rw [q.1, ta3307] at z; exact absurd z (by decide))).trans c3440
                    have c3453 : I3446 a0 13 = v3442 := (f3448 _ _ (fun q => by have z := ta0; rw [q.1, ta3307] at z; exact absurd z (by decide))).trans c3443
                    have c3454 : I3446 a0 14 = v3444 := (f3448 _ _ (fun q => by have z := ta0; rw [q.1, ta3307] at z; exact absurd z (by decide))).trans c3445
                    refine q_iincE dX12_readAlp_79 rfl (by decide) (by decide) (by intros; omega) ?_
                    intro v3455 h3456
                    refine tr_goto 48 dX12_readAlp_82 (by decide) ?_
                    refine tr_iload_n dX12_readAlp_48 rfl ?_
                    refine q_iconst dX12_readAlp_49 (by decide) ?_
                    intro v3457 h3458
                    refine q_icmp_ge 85 dX12_readAlp_50 (by decide) (fun h3459 => ?_) (fun h3459 => ?_)
                    · skip
                      exfalso; omega
                    · skip
                      refine tr_iload_n dX12_readAlp_53 rfl ?_
                      refine q_if_le 63 dX12_readAlp_54 (by decide) (fun h3460 => ?_) (fun h3460 => ?_)
                      · skip
                        exfalso; omega
                      · skip
                        refine tr_aload_n dX12_readAlp_57 rfl ?_
                        refine q_bipush dX12_readAlp_58 (by decide +kernel) ?_
                        intro v3461 h3462
                        refine q_callVv hE (M' := mX12_needsSign) (as := [_]) dX12_readAlp_60 lk12_257 inX12_needsSign seX12_needsSign myX12_needsSign (by decide) ⟨by decide, by decide⟩ rfl (kR15 hS3447.1 ta0) (Nat.le_of_ble_eq_true rfl) rfl rfl (by decide) (by decide) (k_X12_needsSign hS3447.1 ta0) ?_
                        rintro cn' K' N' I3463 R3464 L3465 ⟨rfl, rfl, rfl, rfl, g3466, w3468, -⟩
                        have hS3469 := hS3447.tr g3466 (by decide +kernel) (by decide +kernel)
                        have c3470 : I3463 a1 0 = v29 := (g3466.cell ta1 (by decide +kernel)).trans c3450
                        have c3471 : I3463 a1 1 = v33 := (g3466.cell ta1 (by decide +kernel)).trans c3451
                        have ov3472 := w3468.over (by rw [c3452]; omega)
                        obtain ⟨v3473, c3474⟩ : ∃ v, I3463 a0 9 = v := ⟨_, rfl⟩
                        have b3475 := iv15_9 hS3469.1 ta0 c3474
                        obtain ⟨v3476, c3477⟩ : ∃ v, I3463 a0 13 = v := ⟨_, rfl⟩
                        obtain ⟨v3478, c3479⟩ : ∃ v, I3463 a0 14 = v := ⟨_, rfl⟩
                        (try rw [c3474] at ov3472)
                        (try rw [c3477] at ov3472)
                        (try rw [c3479] at ov3472)
                        (try rw [c3452] at ov3472)
                        (try rw [c3453] at ov3472)
                        (try rw [c3454] at ov3472)
                        refine tr_aload_n dX12_readAlp_63 rfl ?_
                        refine tr_getR dX12_readAlp_64 fl12_188 (kR15 hS3469.1 ta0) d2 ?_
                        refine tr_getR dX12_readAlp_67 fl12_260 (kR14 hS3469.1 ta1) d3308 ?_
                        refine tr_iload_n dX12_readAlp_70 rfl ?_
                        refine tr_aload_n dX12_readAlp_71 rfl ?_
                        refine q_iconst dX12_readAlp_72 (by decide) ?_
                        intro v3480 h3481
                        refine q_bipush dX12_readAlp_73 (by decide +kernel) ?_
                        intro v3482 h3483
                        refine q_callVi hE (M' := mX12_readWhole) (as := [_, _]) dX12_readAlp_75 lk12_161 inX12_readWhole seX12_readWhole myX12_readWhole (by decide) ⟨by decide, by decide⟩ rfl (kR15 hS3469.1 ta0) (Nat.le_of_ble_eq_true rfl) rfl rfl (by decide) (by decide) (k_X12_readWhole hS3469.1 ta0) ?_
                        rintro v3488 cn' K' N' I3484 R3485 L3486 ⟨rfl, rfl, rfl, rfl, g3487, p3489, w3490, -⟩
                        have hS3491 := hS3469.tr g3487 (by decide +kernel) (by decide +kernel)
                        have c3492 : I3484 a1 0 = v29 := (g3487.cell ta1 (by decide +kernel)).trans c3470
                        have c3493 : I3484 a1 1 = v33 := (g3487.cell ta1 (by decide +kernel)).trans c3471
                        have b3494 : 0 ≤ v3488.toInt ∧ v3488.toInt ≤ 99 := by omega
                        clear p3489
                        have ov3495 := w3490.over (by rw [c3474]; omega)
                        obtain ⟨v3496, c3497⟩ : ∃ v, I3484 a0 9 = v := ⟨_, rfl⟩
                        have b3498 := iv15_9 hS3491.1 ta0 c3497
                        obtain ⟨v3499, c3500⟩ : ∃ v, I3484 a0 13 = v := ⟨_, rfl⟩
                        obtain ⟨v3501, c3502⟩ : ∃ v, I3484 a0 14 = v := ⟨_, rfl⟩
                        (try rw [c3497] at ov3495)
                        (try rw [c3500] at ov3495)
                        (try rw [c3502] at ov3495)
                        (try rw [c3474] at ov3495)
                        (try rw [c3477] at ov3495)
                        (try rw [c3479] at ov3495)
                        refine q_iast dX12_readAlp_78 (kR53 hS3491.1 ta3307) (ti_in (nR53 hS3491.1 ta3307) (by omega) (by omega)) hS3491 ta3307 (iokF rfl) rfl (by rfl) ?_
                        intro I3503 hS3504 e3506 f3505
                        have c3507 : I3503 a1 0 = v29 := (f3505 _ _ (fun q => by have z := ta1; rw [q.1, ta3307] at z; exact absurd z (by decide))).trans c3492
                        have c3508 : I3503 a1 1 = v33 := (f3505 _ _ (fun q => by have z := ta1; rw [q.1, ta3307] at z; exact absurd z (by decide))).trans c3493
                        have c3509 : I3503 a0 9 = v3496 := (f3505 _ _ (fun q => by have z := ta0; rw [q.1, ta3307] at z; exact absurd z (by decide))).trans c3497
                        have c3510 : I3503 a0 13 = v3499 := (f3505 _ _ (fun q => by have z := ta0; rw [q.1, ta3307] at z; exact absurd z (by decide))).trans c3500
                        have c3511 : I3503 a0 14 = v3501 := (f3505 _ _ (fun q => by have z := ta0; rw [q.1, ta3307] at z; exact absurd z (by decide))).trans c3502
                        refine q_iincE dX12_readAlp_79 rfl (by decide) (by decide) (by intros; omega) ?_
                        intro v3512 h3513
                        refine tr_goto 48 dX12_readAlp_82 (by decide) ?_
                        refine tr_iload_n dX12_readAlp_48 rfl ?_
                        refine q_iconst dX12_readAlp_49 (by decide) ?_
                        intro v3514 h3515
                        refine q_icmp_ge 85 dX12_readAlp_50 (by decide) (fun h3516 => ?_) (fun h3516 => ?_)
                        · skip
                          exfalso; omega
                        · skip
                          refine tr_iload_n dX12_readAlp_53 rfl ?_
                          refine q_if_le 63 dX12_readAlp_54 (by decide) (fun h3517 => ?_) (fun h3517 => ?_)
                          · skip
                            exfalso; omega
                          · skip
                            refine tr_aload_n dX12_readAlp_57 rfl ?_
                            refine q_bipush dX12_readAlp_58 (by decide +kernel) ?_
                            intro v3518 h3519
                            refine q_callVv hE (M' := mX12_needsSign) (as := [_]) dX12_readAlp_60 lk12_257 inX12_needsSign seX12_needsSign myX12_needsSign (by decide) ⟨by decide, by decide⟩ rfl (kR15 hS3504.1 ta0) (Nat.le_of_ble_eq_true rfl) rfl rfl (by decide) (by decide) (k_X12_needsSign hS3504.1 ta0) ?_
                            rintro cn' K' N' I3520 R3521 L3522 ⟨rfl, rfl, rfl, rfl, g3523, w3525, -⟩
                            have hS3526 := hS3504.tr g3523 (by decide +kernel) (by decide +kernel)
                            have c3527 : I3520 a1 0 = v29 := (g3523.cell ta1 (by decide +kernel)).trans c3507
                            have c3528 : I3520 a1 1 = v33 := (g3523.cell ta1 (by decide +kernel)).trans c3508
                            have ov3529 := w3525.over (by rw [c3509]; omega)
                            obtain ⟨v3530, c3531⟩ : ∃ v, I3520 a0 9 = v := ⟨_, rfl⟩
                            have b3532 := iv15_9 hS3526.1 ta0 c3531
                            obtain ⟨v3533, c3534⟩ : ∃ v, I3520 a0 13 = v := ⟨_, rfl⟩
                            obtain ⟨v3535, c3536⟩ : ∃ v, I3520 a0 14 = v := ⟨_, rfl⟩
                            (try rw [c3531] at ov3529)
                            (try rw [c3534] at ov3529)
                            (try rw [c3536] at ov3529)
                            (try rw [c3509] at ov3529)
                            (try rw [c3510] at ov3529)
                            (try rw [c3511] at ov3529)
                            refine tr_aload_n dX12_readAlp_63 rfl ?_
                            refine tr_getR dX12_readAlp_64 fl12_188 (kR15 hS3526.1 ta0) d2 ?_
                            refine tr_getR dX12_readAlp_67 fl12_260 (kR14 hS3526.1 ta1) d3308 ?_
                            refine tr_iload_n dX12_readAlp_70 rfl ?_
                            refine tr_aload_n dX12_readAlp_71 rfl ?_
                            refine q_iconst dX12_readAlp_72 (by decide) ?_
                            intro v3537 h3538
                            refine q_bipush dX12_readAlp_73 (by decide +kernel) ?_
                            intro v3539 h3540
                            refine q_callVi hE (M' := mX12_readWhole) (as := [_, _]) dX12_readAlp_75 lk12_161 inX12_readWhole seX12_readWhole myX12_readWhole (by decide) ⟨by decide, by decide⟩ rfl (kR15 hS3526.1 ta0) (Nat.le_of_ble_eq_true rfl) rfl rfl (by decide) (by decide) (k_X12_readWhole hS3526.1 ta0) ?_
                            rintro v3545 cn' K' N' I3541 R3542 L3543 ⟨rfl, rfl, rfl, rfl, g3544, p3546, w3547, -⟩
                            have hS3548 := hS3526.tr g3544 (by decide +kernel) (by decide +kernel)
                            have c3549 : I3541 a1 0 = v29 := (g3544.cell ta1 (by decide +kernel)).trans c3527
                            have c3550 : I3541 a1 1 = v33 := (g3544.cell ta1 (by decide +kernel)).trans c3528
                            have b3551 : 0 ≤ v3545.toInt ∧ v3545.toInt ≤ 99 := by omega
                            clear p3546
                            have ov3552 := w3547.over (by rw [c3531]; omega)
                            obtain ⟨v3553, c3554⟩ : ∃ v, I3541 a0 9 = v := ⟨_, rfl⟩
                            have b3555 := iv15_9 hS3548.1 ta0 c3554
                            obtain ⟨v3556, c3557⟩ : ∃ v, I3541 a0 13 = v := ⟨_, rfl⟩
                            obtain ⟨v3558, c3559⟩ : ∃ v, I3541 a0 14 = v := ⟨_, rfl⟩
                            (try rw [c3554] at ov3552)
                            (try rw [c3557] at ov3552)
                            (try rw [c3559] at ov3552)
                            (try rw [c3531] at ov3552)
                            (try rw [c3534] at ov3552)
                            (try rw [c3536] at ov3552)
                            refine q_iast dX12_readAlp_78 (kR53 hS3548.1 ta3307) (ti_in (nR53 hS3548.1 ta3307) (by omega) (by omega)) hS3548 ta3307 (iokF rfl) rfl (by rfl) ?_
                            intro I3560 hS3561 e3563 f3562
                            have c3564 : I3560 a1 0 = v29 := (f3562 _ _ (fun q => by have z := ta1; rw [q.1, ta3307] at z; exact absurd z (by decide))).trans c3549
                            have c3565 : I3560 a1 1 = v33 := (f3562 _ _ (fun q => by have z := ta1; rw [q.1, ta3307] at z; exact absurd z (by decide))).trans c3550
                            have c3566 : I3560 a0 9 = v3553 := (f3562 _ _ (fun q => by have z := ta0; rw [q.1, ta3307] at z; exact absurd z (by decide))).trans c3554
                            have c3567 : I3560 a0 13 = v3556 := (f3562 _ _ (fun q => by have z := ta0; rw [q.1, ta3307] at z; exact absurd z (by decide))).trans c3557
                            have c3568 : I3560 a0 14 = v3558 := (f3562 _ _ (fun q => by have z := ta0; rw [q.1, ta3307] at z; exact absurd z (by decide))).trans c3559
                            refine q_iincE dX12_readAlp_79 rfl (by decide) (by decide) (by intros; omega) ?_
                            intro v3569 h3570
                            refine tr_goto 48 dX12_readAlp_82 (by decide) ?_
                            refine tr_iload_n dX12_readAlp_48 rfl ?_
                            refine q_iconst dX12_readAlp_49 (by decide) ?_
                            intro v3571 h3572
                            refine q_icmp_ge 85 dX12_readAlp_50 (by decide) (fun h3573 => ?_) (fun h3573 => ?_)
                            · skip
                              refine tr_aload_n dX12_readAlp_85 rfl ?_
                              refine q_getI dX12_readAlp_86 fl12_99 (kR15 hS3561.1 ta0) c3566 ?_
                              refine q_iconst dX12_readAlp_89 (by decide) ?_
                              intro v3574 h3575
                              refine q_icmp_ne 94 dX12_readAlp_90 (by decide) (fun h3576 => ?_) (fun h3576 => ?_)
                              · skip
                                exfalso; omega
                              · skip
                                have eF := hF.eq
                                have eP := hP.eq
                                obtain ⟨v3577, c3578⟩ : ∃ v, I3560 a0 10 = v := ⟨_, rfl⟩
                                have b3579 := iv15_10 hS3561.1 ta0 c3578
                                obtain ⟨v3580, c3581⟩ : ∃ v, I3560 a0 11 = v := ⟨_, rfl⟩
                                obtain ⟨y3582, c3583⟩ : ∃ v, L3543 a0 15 = v := ⟨_, rfl⟩
                                obtain ⟨v3584, c3585⟩ : ∃ v, I3560 a0 12 = v := ⟨_, rfl⟩
                                obtain ⟨v3586, c3587⟩ : ∃ v, I3560 a0 8 = v := ⟨_, rfl⟩
                                have b3588 := iv15_8 hS3561.1 ta0 c3587
                                exact tr_vret hZ dX12_readAlp_93 rfl (by decide) (by decide) ⟨rfl, rfl, rfl, rfl, rfl, hS3561, (Or.inr (⟨(by (try rw [w106]); first | done | omega), (by (try rw [w106]); (try rw [c3566]); first | done | omega), (by (try rw [w106]); (try rw [c3567]); first | done | omega), (by (try rw [w106]); (try rw [c3568]); first | done | omega), trivial⟩)), trivial⟩
                            · skip
                              exfalso; omega
          · skip
            exfalso; omega
      · skip
        obtain ⟨v3589, c3590⟩ : ∃ v, I189 a0 9 = v := ⟨_, rfl⟩
        have b3591 := iv15_9 hS197.1 ta0 c3590
        rw [c3590] at p224
        obtain ⟨v3592, c3593⟩ : ∃ v, I189 a0 13 = v := ⟨_, rfl⟩
        rw [c3593] at p225
        obtain ⟨v3594, c3595⟩ : ∃ v, I189 a0 14 = v := ⟨_, rfl⟩
        rw [c3595] at p226
        replace hF := hF.neg (by omega)
        replace hP := hP.neg (by omega)
        replace hF := hF.pos (by omega)
        replace hP := hP.pos (by omega)
        refine tr_istore_n dX12_readAlp_39 (by decide) (by decide) ?_
        refine tr_aload_n dX12_readAlp_40 rfl ?_
        refine tr_ldcS dX12_readAlp_41 ld12_255 ?_
        refine q_callVv hE (M' := mX12_needs) (as := [_]) dX12_readAlp_43 lk12_157 inX12_needs seX12_needs myX12_needs (by decide) ⟨by decide, by decide⟩ rfl (kR15 hS197.1 ta0) (Nat.le_of_ble_eq_true rfl) rfl rfl (by decide) (by decide) (k_X12_needs hS197.1 ta0 (by decide)) ?_
        rintro cn' K' N' I3596 R3597 L3598 ⟨rfl, rfl, rfl, rfl, g3599, w3601, -⟩
        have hS3602 := hS197.tr g3599 (by decide +kernel) (by decide +kernel)
        have c3603 : I3596 a1 0 = v29 := (g3599.cell ta1 (by decide +kernel)).trans c198
        have c3604 : I3596 a1 1 = v33 := (g3599.cell ta1 (by decide +kernel)).trans c199
        have ov3605 := w3601.over (by rw [c3590]; omega)
        obtain ⟨v3606, c3607⟩ : ∃ v, I3596 a0 9 = v := ⟨_, rfl⟩
        have b3608 := iv15_9 hS3602.1 ta0 c3607
        obtain ⟨v3609, c3610⟩ : ∃ v, I3596 a0 13 = v := ⟨_, rfl⟩
        obtain ⟨v3611, c3612⟩ : ∃ v, I3596 a0 14 = v := ⟨_, rfl⟩
        (try rw [c3607] at ov3605)
        (try rw [c3610] at ov3605)
        (try rw [c3612] at ov3605)
        (try rw [c3590] at ov3605)
        (try rw [c3593] at ov3605)
        (try rw [c3595] at ov3605)
        refine q_iconst dX12_readAlp_46 (by decide) ?_
        intro v3613 h3614
        refine tr_istore_n dX12_readAlp_47 (by decide) (by decide) ?_
        refine tr_iload_n dX12_readAlp_48 rfl ?_
        refine q_iconst dX12_readAlp_49 (by decide) ?_
        intro v3615 h3616
        refine q_icmp_ge 85 dX12_readAlp_50 (by decide) (fun h3617 => ?_) (fun h3617 => ?_)
        · skip
          exfalso; omega
        · skip
          refine tr_iload_n dX12_readAlp_53 rfl ?_
          refine q_if_le 63 dX12_readAlp_54 (by decide) (fun h3618 => ?_) (fun h3618 => ?_)
          · skip
            refine tr_aload_n dX12_readAlp_63 rfl ?_
            refine tr_getR dX12_readAlp_64 fl12_188 (kR15 hS3602.1 ta0) d2 ?_
            obtain ⟨a3619, d3620, ta3619⟩ := rf14_10 hW0 ta1
            refine tr_getR dX12_readAlp_67 fl12_260 (kR14 hS3602.1 ta1) d3620 ?_
            refine tr_iload_n dX12_readAlp_70 rfl ?_
            refine tr_aload_n dX12_readAlp_71 rfl ?_
            refine q_iconst dX12_readAlp_72 (by decide) ?_
            intro v3621 h3622
            refine q_bipush dX12_readAlp_73 (by decide +kernel) ?_
            intro v3623 h3624
            refine q_callVi hE (M' := mX12_readWhole) (as := [_, _]) dX12_readAlp_75 lk12_161 inX12_readWhole seX12_readWhole myX12_readWhole (by decide) ⟨by decide, by decide⟩ rfl (kR15 hS3602.1 ta0) (Nat.le_of_ble_eq_true rfl) rfl rfl (by decide) (by decide) (k_X12_readWhole hS3602.1 ta0) ?_
            rintro v3629 cn' K' N' I3625 R3626 L3627 ⟨rfl, rfl, rfl, rfl, g3628, p3630, w3631, -⟩
            have hS3632 := hS3602.tr g3628 (by decide +kernel) (by decide +kernel)
            have c3633 : I3625 a1 0 = v29 := (g3628.cell ta1 (by decide +kernel)).trans c3603
            have c3634 : I3625 a1 1 = v33 := (g3628.cell ta1 (by decide +kernel)).trans c3604
            have b3635 : 0 ≤ v3629.toInt ∧ v3629.toInt ≤ 99 := by omega
            clear p3630
            have ov3636 := w3631.over (by rw [c3607]; omega)
            obtain ⟨v3637, c3638⟩ : ∃ v, I3625 a0 9 = v := ⟨_, rfl⟩
            have b3639 := iv15_9 hS3632.1 ta0 c3638
            obtain ⟨v3640, c3641⟩ : ∃ v, I3625 a0 13 = v := ⟨_, rfl⟩
            obtain ⟨v3642, c3643⟩ : ∃ v, I3625 a0 14 = v := ⟨_, rfl⟩
            (try rw [c3638] at ov3636)
            (try rw [c3641] at ov3636)
            (try rw [c3643] at ov3636)
            (try rw [c3607] at ov3636)
            (try rw [c3610] at ov3636)
            (try rw [c3612] at ov3636)
            refine q_iast dX12_readAlp_78 (kR53 hS3632.1 ta3619) (ti_in (nR53 hS3632.1 ta3619) (by omega) (by omega)) hS3632 ta3619 (iokF rfl) rfl (by rfl) ?_
            intro I3644 hS3645 e3647 f3646
            have c3648 : I3644 a1 0 = v29 := (f3646 _ _ (fun q => by have z := ta1; rw [q.1, ta3619] at z; exact absurd z (by decide))).trans c3633
            have c3649 : I3644 a1 1 = v33 := (f3646 _ _ (fun q => by have z := ta1; rw [q.1, ta3619] at z; exact absurd z (by decide))).trans c3634
            have c3650 : I3644 a0 9 = v3637 := (f3646 _ _ (fun q => by have z := ta0; rw [q.1, ta3619] at z; exact absurd z (by decide))).trans c3638
            have c3651 : I3644 a0 13 = v3640 := (f3646 _ _ (fun q => by have z := ta0; rw [q.1, ta3619] at z; exact absurd z (by decide))).trans c3641
            have c3652 : I3644 a0 14 = v3642 := (f3646 _ _ (fun q => by have z := ta0; rw [q.1, ta3619] at z; exact absurd z (by decide))).trans c3643
            refine q_iincE dX12_readAlp_79 rfl (by decide) (by decide) (by intros; omega) ?_
            intro v3653 h3654
            refine tr_goto 48 dX12_readAlp_82 (by decide) ?_
            refine tr_iload_n dX12_readAlp_48 rfl ?_
            refine q_iconst dX12_readAlp_49 (by decide) ?_
            intro v3655 h3656
            refine q_icmp_ge 85 dX12_readAlp_50 (by decide) (fun h3657 => ?_) (fun h3657 => ?_)
            · skip
              exfalso; omega
            · skip
              refine tr_iload_n dX12_readAlp_53 rfl ?_
              refine q_if_le 63 dX12_readAlp_54 (by decide) (fun h3658 => ?_) (fun h3658 => ?_)
              · skip
                exfalso; omega
              · skip
                refine tr_aload_n dX12_readAlp_57 rfl ?_
                refine q_bipush dX12_readAlp_58 (by decide +kernel) ?_
                intro v3659 h3660
                refine q_callVv hE (M' := mX12_needsSign) (as := [_]) dX12_readAlp_60 lk12_257 inX12_needsSign seX12_needsSign myX12_needsSign (by decide) ⟨by decide, by decide⟩ rfl (kR15 hS3645.1 ta0) (Nat.le_of_ble_eq_true rfl) rfl rfl (by decide) (by decide) (k_X12_needsSign hS3645.1 ta0) ?_
                rintro cn' K' N' I3661 R3662 L3663 ⟨rfl, rfl, rfl, rfl, g3664, w3666, -⟩
                have hS3667 := hS3645.tr g3664 (by decide +kernel) (by decide +kernel)
                have c3668 : I3661 a1 0 = v29 := (g3664.cell ta1 (by decide +kernel)).trans c3648
                have c3669 : I3661 a1 1 = v33 := (g3664.cell ta1 (by decide +kernel)).trans c3649
                have ov3670 := w3666.over (by rw [c3650]; omega)
                obtain ⟨v3671, c3672⟩ : ∃ v, I3661 a0 9 = v := ⟨_, rfl⟩
                have b3673 := iv15_9 hS3667.1 ta0 c3672
                obtain ⟨v3674, c3675⟩ : ∃ v, I3661 a0 13 = v := ⟨_, rfl⟩
                obtain ⟨v3676, c3677⟩ : ∃ v, I3661 a0 14 = v := ⟨_, rfl⟩
                (try rw [c3672] at ov3670)
                (try rw [c3675] at ov3670)
                (try rw [c3677] at ov3670)
                (try rw [c3650] at ov3670)
                (try rw [c3651] at ov3670)
                (try rw [c3652] at ov3670)
                refine tr_aload_n dX12_readAlp_63 rfl ?_
                refine tr_getR dX12_readAlp_64 fl12_188 (kR15 hS3667.1 ta0) d2 ?_
                refine tr_getR dX12_readAlp_67 fl12_260 (kR14 hS3667.1 ta1) d3620 ?_
                refine tr_iload_n dX12_readAlp_70 rfl ?_
                refine tr_aload_n dX12_readAlp_71 rfl ?_
                refine q_iconst dX12_readAlp_72 (by decide) ?_
                intro v3678 h3679
                refine q_bipush dX12_readAlp_73 (by decide +kernel) ?_
                intro v3680 h3681
                refine q_callVi hE (M' := mX12_readWhole) (as := [_, _]) dX12_readAlp_75 lk12_161 inX12_readWhole seX12_readWhole myX12_readWhole (by decide) ⟨by decide, by decide⟩ rfl (kR15 hS3667.1 ta0) (Nat.le_of_ble_eq_true rfl) rfl rfl (by decide) (by decide) (k_X12_readWhole hS3667.1 ta0) ?_
                rintro v3686 cn' K' N' I3682 R3683 L3684 ⟨rfl, rfl, rfl, rfl, g3685, p3687, w3688, -⟩
                have hS3689 := hS3667.tr g3685 (by decide +kernel) (by decide +kernel)
                have c3690 : I3682 a1 0 = v29 := (g3685.cell ta1 (by decide +kernel)).trans c3668
                have c3691 : I3682 a1 1 = v33 := (g3685.cell ta1 (by decide +kernel)).trans c3669
                have b3692 : 0 ≤ v3686.toInt ∧ v3686.toInt ≤ 99 := by omega
                clear p3687
                have ov3693 := w3688.over (by rw [c3672]; omega)
                obtain ⟨v3694, c3695⟩ : ∃ v, I3682 a0 9 = v := ⟨_, rfl⟩
                have b3696 := iv15_9 hS3689.1 ta0 c3695
                obtain ⟨v3697, c3698⟩ : ∃ v, I3682 a0 13 = v := ⟨_, rfl⟩
                obtain ⟨v3699, c3700⟩ : ∃ v, I3682 a0 14 = v := ⟨_, rfl⟩
                (try rw [c3695] at ov3693)
                (try rw [c3698] at ov3693)
                (try rw [c3700] at ov3693)
                (try rw [c3672] at ov3693)
                (try rw [c3675] at ov3693)
                (try rw [c3677] at ov3693)
                refine q_iast dX12_readAlp_78 (kR53 hS3689.1 ta3619) (ti_in (nR53 hS3689.1 ta3619) (by omega) (by omega)) hS3689 ta3619 (iokF rfl) rfl (by rfl) ?_
                intro I3701 hS3702 e3704 f3703
                have c3705 : I3701 a1 0 = v29 := (f3703 _ _ (fun q => by have z := ta1; rw [q.1, ta3619] at z; exact absurd z (by decide))).trans c3690
                have c3706 : I3701 a1 1 = v33 := (f3703 _ _ (fun q => by have z := ta1; rw [q.1, ta3619] at z; exact absurd z (by decide))).trans c3691
                have c3707 : I3701 a0 9 = v3694 := (f3703 _ _ (fun q => by have z := ta0; rw [q.1, ta3619] at z; exact absurd z (by decide))).trans c3695
                have c3708 : I3701 a0 13 = v3697 := (f3703 _ _ (fun q => by have z := ta0; rw [q.1, ta3619] at z; exact absurd z (by decide))).trans c3698
                have c3709 : I3701 a0 14 = v3699 := (f3703 _ _ (fun q => by have z := ta0; rw [q.1, ta3619] at z; exact absurd z (by decide))).trans c3700
                refine q_iincE dX12_readAlp_79 rfl (by decide) (by decide) (by intros; omega) ?_
                intro v3710 h3711
                refine tr_goto 48 dX12_readAlp_82 (by decide) ?_
                refine tr_iload_n dX12_readAlp_48 rfl ?_
                refine q_iconst dX12_readAlp_49 (by decide) ?_
                intro v3712 h3713
                refine q_icmp_ge 85 dX12_readAlp_50 (by decide) (fun h3714 => ?_) (fun h3714 => ?_)
                · skip
                  exfalso; omega
                · skip
                  refine tr_iload_n dX12_readAlp_53 rfl ?_
                  refine q_if_le 63 dX12_readAlp_54 (by decide) (fun h3715 => ?_) (fun h3715 => ?_)
                  · skip
                    exfalso; omega
                  · skip
                    refine tr_aload_n dX12_readAlp_57 rfl ?_
                    refine q_bipush dX12_readAlp_58 (by decide +kernel) ?_
                    intro v3716 h3717
                    refine q_callVv hE (M' := mX12_needsSign) (as := [_]) dX12_readAlp_60 lk12_257 inX12_needsSign seX12_needsSign myX12_needsSign (by decide) ⟨by decide, by decide⟩ rfl (kR15 hS3702.1 ta0) (Nat.le_of_ble_eq_true rfl) rfl rfl (by decide) (by decide) (k_X12_needsSign hS3702.1 ta0) ?_
                    rintro cn' K' N' I3718 R3719 L3720 ⟨rfl, rfl, rfl, rfl, g3721, w3723, -⟩
                    have hS3724 := hS3702.tr g3721 (by decide +kernel) (by decide +kernel)
                    have c3725 : I3718 a1 0 = v29 := (g3721.cell ta1 (by decide +kernel)).trans c3705
                    have c3726 : I3718 a1 1 = v33 := (g3721.cell ta1 (by decide +kernel)).trans c3706
                    have ov3727 := w3723.over (by rw [c3707]; omega)
                    obtain ⟨v3728, c3729⟩ : ∃ v, I3718 a0 9 = v := ⟨_, rfl⟩
                    have b3730 := iv15_9 hS3724.1 ta0 c3729
                    obtain ⟨v3731, c3732⟩ : ∃ v, I3718 a0 13 = v := ⟨_, rfl⟩
                    obtain ⟨v3733, c3734⟩ : ∃ v, I3718 a0 14 = v := ⟨_, rfl⟩
                    (try rw [c3729] at ov3727)
                    (try rw [c3732] at ov3727)
                    (try rw [c3734] at ov3727)
                    (try rw [c3707] at ov3727)
                    (try rw [c3708] at ov3727)
                    (try rw [c3709] at ov3727)
                    refine tr_aload_n dX12_readAlp_63 rfl ?_
                    refine tr_getR dX12_readAlp_64 fl12_188 (kR15 hS3724.1 ta0) d2 ?_
                    refine tr_getR dX12_readAlp_67 fl12_260 (kR14 hS3724.1 ta1) d3620 ?_
                    refine tr_iload_n dX12_readAlp_70 rfl ?_
                    refine tr_aload_n dX12_readAlp_71 rfl ?_
                    refine q_iconst dX12_readAlp_72 (by decide) ?_
                    intro v3735 h3736
                    refine q_bipush dX12_readAlp_73 (by decide +kernel) ?_
                    intro v3737 h3738
                    refine q_callVi hE (M' := mX12_readWhole) (as := [_, _]) dX12_readAlp_75 lk12_161 inX12_readWhole seX12_readWhole myX12_readWhole (by decide) ⟨by decide, by decide⟩ rfl (kR15 hS3724.1 ta0) (Nat.le_of_ble_eq_true rfl) rfl rfl (by decide) (by decide) (k_X12_readWhole hS3724.1 ta0) ?_
                    rintro v3743 cn' K' N' I3739 R3740 L3741 ⟨rfl, rfl, rfl, rfl, g3742, p3744, w3745, -⟩
                    have hS3746 := hS3724.tr g3742 (by decide +kernel) (by decide +kernel)
                    have c3747 : I3739 a1 0 = v29 := (g3742.cell ta1 (by decide +kernel)).trans c3725
                    have c3748 : I3739 a1 1 = v33 := (g3742.cell ta1 (by decide +kernel)).trans c3726
                    have b3749 : 0 ≤ v3743.toInt ∧ v3743.toInt ≤ 99 := by omega
                    clear p3744
                    have ov3750 := w3745.over (by rw [c3729]; omega)
                    obtain ⟨v3751, c3752⟩ : ∃ v, I3739 a0 9 = v := ⟨_, rfl⟩
                    have b3753 := iv15_9 hS3746.1 ta0 c3752
                    obtain ⟨v3754, c3755⟩ : ∃ v, I3739 a0 13 = v := ⟨_, rfl⟩
                    obtain ⟨v3756, c3757⟩ : ∃ v, I3739 a0 14 = v := ⟨_, rfl⟩
                    (try rw [c3752] at ov3750)
                    (try rw [c3755] at ov3750)
                    (try rw [c3757] at ov3750)
                    (try rw [c3729] at ov3750)
                    (try rw [c3732] at ov3750)
                    (try rw [c3734] at ov3750)
                    refine q_iast dX12_readAlp_78 (kR53 hS3746.1 ta3619) (ti_in (nR53 hS3746.1 ta3619) (by omega) (by omega)) hS3746 ta3619 (iokF rfl) rfl (by rfl) ?_
                    intro I3758 hS3759 e3761 f3760
                    have c3762 : I3758 a1 0 = v29 := (f3760 _ _ (fun q => by have z := ta1; rw [q.1, ta3619] at z; exact absurd z (by decide))).trans c3747
                    have c3763 : I3758 a1 1 = v33 := (f3760 _ _ (fun q => by have z := ta1; rw [q.1, ta3619] at z; exact absurd z (by decide))).trans c3748
                    have c3764 : I3758 a0 9 = v3751 := (f3760 _ _ (fun q => by have z := ta0; rw [q.1, ta3619] at z; exact absurd z (by decide))).trans c3752
                    have c3765 : I3758 a0 13 = v3754 := (f3760 _ _ (fun q => by have z := ta0; rw [q.1, ta3619] at z; exact absurd z (by decide))).trans c3755
                    have c3766 : I3758 a0 14 = v3756 := (f3760 _ _ (fun q => by have z := ta0; rw [q.1, ta3619] at z; exact absurd z (by decide))).trans c3757
                    refine q_iincE dX12_readAlp_79 rfl (by decide) (by decide) (by intros; omega) ?_
                    intro v3767 h3768
                    refine tr_goto 48 dX12_readAlp_82 (by decide) ?_
                    refine tr_iload_n dX12_readAlp_48 rfl ?_
                    refine q_iconst dX12_readAlp_49 (by decide) ?_
                    intro v3769 h3770
                    refine q_icmp_ge 85 dX12_readAlp_50 (by decide) (fun h3771 => ?_) (fun h3771 => ?_)
                    · skip
                      exfalso; omega
                    · skip
                      refine tr_iload_n dX12_readAlp_53 rfl ?_
                      refine q_if_le 63 dX12_readAlp_54 (by decide) (fun h3772 => ?_) (fun h3772 => ?_)
                      · skip
                        exfalso; omega
                      · skip
                        refine tr_aload_n dX12_readAlp_57 rfl ?_
                        refine q_bipush dX12_readAlp_58 (by decide +kernel) ?_
                        intro v3773 h3774
                        refine q_callVv hE (M' := mX12_needsSign) (as := [_]) dX12_readAlp_60 lk12_257 inX12_needsSign seX12_needsSign myX12_needsSign (by decide) ⟨by decide, by decide⟩ rfl (kR15 hS3759.1 ta0) (Nat.le_of_ble_eq_true rfl) rfl rfl (by decide) (by decide) (k_X12_needsSign hS3759.1 ta0) ?_
                        rintro cn' K' N' I3775 R3776 L3777 ⟨rfl, rfl, rfl, rfl, g3778, w3780, -⟩
                        have hS3781 := hS3759.tr g3778 (by decide +kernel) (by decide +kernel)
                        have c3782 : I3775 a1 0 = v29 := (g3778.cell ta1 (by decide +kernel)).trans c3762
                        have c3783 : I3775 a1 1 = v33 := (g3778.cell ta1 (by decide +kernel)).trans c3763
                        have ov3784 := w3780.over (by rw [c3764]; omega)
                        obtain ⟨v3785, c3786⟩ : ∃ v, I3775 a0 9 = v := ⟨_, rfl⟩
                        have b3787 := iv15_9 hS3781.1 ta0 c3786
                        obtain ⟨v3788, c3789⟩ : ∃ v, I3775 a0 13 = v := ⟨_, rfl⟩
                        obtain ⟨v3790, c3791⟩ : ∃ v, I3775 a0 14 = v := ⟨_, rfl⟩
                        (try rw [c3786] at ov3784)
                        (try rw [c3789] at ov3784)
                        (try rw [c3791] at ov3784)
                        (try rw [c3764] at ov3784)
                        (try rw [c3765] at ov3784)
                        (try rw [c3766] at ov3784)
                        refine tr_aload_n dX12_readAlp_63 rfl ?_
                        refine tr_getR dX12_readAlp_64 fl12_188 (kR15 hS3781.1 ta0) d2 ?_
                        refine tr_getR dX12_readAlp_67 fl12_260 (kR14 hS3781.1 ta1) d3620 ?_
                        refine tr_iload_n dX12_readAlp_70 rfl ?_
                        refine tr_aload_n dX12_readAlp_71 rfl ?_
                        refine q_iconst dX12_readAlp_72 (by decide) ?_
                        intro v3792 h3793
                        refine q_bipush dX12_readAlp_73 (by decide +kernel) ?_
                        intro v3794 h3795
                        refine q_callVi hE (M' := mX12_readWhole) (as := [_, _]) dX12_readAlp_75 lk12_161 inX12_readWhole seX12_readWhole myX12_readWhole (by decide) ⟨by decide, by decide⟩ rfl (kR15 hS3781.1 ta0) (Nat.le_of_ble_eq_true rfl) rfl rfl (by decide) (by decide) (k_X12_readWhole hS3781.1 ta0) ?_
                        rintro v3800 cn' K' N' I3796 R3797 L3798 ⟨rfl, rfl, rfl, rfl, g3799, p3801, w3802, -⟩
                        have hS3803 := hS3781.tr g3799 (by decide +kernel) (by decide +kernel)
                        have c3804 : I3796 a1 0 = v29 := (g3799.cell ta1 (by decide +kernel)).trans c3782
                        have c3805 : I3796 a1 1 = v33 := (g3799.cell ta1 (by decide +kernel)).trans c3783
                        have b3806 : 0 ≤ v3800.toInt ∧ v3800.toInt ≤ 99 := by omega
                        clear p3801
                        have ov3807 := w3802.over (by rw [c3786]; omega)
                        obtain ⟨v3808, c3809⟩ : ∃ v, I3796 a0 9 = v := ⟨_, rfl⟩
                        have b3810 := iv15_9 hS3803.1 ta0 c3809
                        obtain ⟨v3811, c3812⟩ : ∃ v, I3796 a0 13 = v := ⟨_, rfl⟩
                        obtain ⟨v3813, c3814⟩ : ∃ v, I3796 a0 14 = v := ⟨_, rfl⟩
                        (try rw [c3809] at ov3807)
                        (try rw [c3812] at ov3807)
                        (try rw [c3814] at ov3807)
                        (try rw [c3786] at ov3807)
                        (try rw [c3789] at ov3807)
                        (try rw [c3791] at ov3807)
                        refine q_iast dX12_readAlp_78 (kR53 hS3803.1 ta3619) (ti_in (nR53 hS3803.1 ta3619) (by omega) (by omega)) hS3803 ta3619 (iokF rfl) rfl (by rfl) ?_
                        intro I3815 hS3816 e3818 f3817
                        have c3819 : I3815 a1 0 = v29 := (f3817 _ _ (fun q => by have z := ta1; rw [q.1, ta3619] at z; exact absurd z (by decide))).trans c3804
                        have c3820 : I3815 a1 1 = v33 := (f3817 _ _ (fun q => by have z := ta1; rw [q.1, ta3619] at z; exact absurd z (by decide))).trans c3805
                        have c3821 : I3815 a0 9 = v3808 := (f3817 _ _ (fun q => by have z := ta0; rw [q.1, ta3619] at z; exact absurd z (by decide))).trans c3809
                        have c3822 : I3815 a0 13 = v3811 := (f3817 _ _ (fun q => by have z := ta0; rw [q.1, ta3619] at z; exact absurd z (by decide))).trans c3812
                        have c3823 : I3815 a0 14 = v3813 := (f3817 _ _ (fun q => by have z := ta0; rw [q.1, ta3619] at z; exact absurd z (by decide))).trans c3814
                        refine q_iincE dX12_readAlp_79 rfl (by decide) (by decide) (by intros; omega) ?_
                        intro v3824 h3825
                        refine tr_goto 48 dX12_readAlp_82 (by decide) ?_
                        refine tr_iload_n dX12_readAlp_48 rfl ?_
                        refine q_iconst dX12_readAlp_49 (by decide) ?_
                        intro v3826 h3827
                        refine q_icmp_ge 85 dX12_readAlp_50 (by decide) (fun h3828 => ?_) (fun h3828 => ?_)
                        · skip
                          exfalso; omega
                        · skip
                          refine tr_iload_n dX12_readAlp_53 rfl ?_
                          refine q_if_le 63 dX12_readAlp_54 (by decide) (fun h3829 => ?_) (fun h3829 => ?_)
                          · skip
                            exfalso; omega
                          · skip
                            refine tr_aload_n dX12_readAlp_57 rfl ?_
                            refine q_bipush dX12_readAlp_58 (by decide +kernel) ?_
                            intro v3830 h3831
                            refine q_callVv hE (M' := mX12_needsSign) (as := [_]) dX12_readAlp_60 lk12_257 inX12_needsSign seX12_needsSign myX12_needsSign (by decide) ⟨by decide, by decide⟩ rfl (kR15 hS3816.1 ta0) (Nat.le_of_ble_eq_true rfl) rfl rfl (by decide) (by decide) (k_X12_needsSign hS3816.1 ta0) ?_
                            rintro cn' K' N' I3832 R3833 L3834 ⟨rfl, rfl, rfl, rfl, g3835, w3837, -⟩
                            have hS3838 := hS3816.tr g3835 (by decide +kernel) (by decide +kernel)
                            have c3839 : I3832 a1 0 = v29 := (g3835.cell ta1 (by decide +kernel)).trans c3819
                            have c3840 : I3832 a1 1 = v33 := (g3835.cell ta1 (by decide +kernel)).trans c3820
                            have ov3841 := w3837.over (by rw [c3821]; omega)
                            obtain ⟨v3842, c3843⟩ : ∃ v, I3832 a0 9 = v := ⟨_, rfl⟩
                            have b3844 := iv15_9 hS3838.1 ta0 c3843
                            obtain ⟨v3845, c3846⟩ : ∃ v, I3832 a0 13 = v := ⟨_, rfl⟩
                            obtain ⟨v3847, c3848⟩ : ∃ v, I3832 a0 14 = v := ⟨_, rfl⟩
                            (try rw [c3843] at ov3841)
                            (try rw [c3846] at ov3841)
                            (try rw [c3848] at ov3841)
                            (try rw [c3821] at ov3841)
                            (try rw [c3822] at ov3841)
                            (try rw [c3823] at ov3841)
                            refine tr_aload_n dX12_readAlp_63 rfl ?_
                            refine tr_getR dX12_readAlp_64 fl12_188 (kR15 hS3838.1 ta0) d2 ?_
                            refine tr_getR dX12_readAlp_67 fl12_260 (kR14 hS3838.1 ta1) d3620 ?_
                            refine tr_iload_n dX12_readAlp_70 rfl ?_
                            refine tr_aload_n dX12_readAlp_71 rfl ?_
                            refine q_iconst dX12_readAlp_72 (by decide) ?_
                            intro v3849 h3850
                            refine q_bipush dX12_readAlp_73 (by decide +kernel) ?_
                            intro v3851 h3852
                            refine q_callVi hE (M' := mX12_readWhole) (as := [_, _]) dX12_readAlp_75 lk12_161 inX12_readWhole seX12_readWhole myX12_readWhole (by decide) ⟨by decide, by decide⟩ rfl (kR15 hS3838.1 ta0) (Nat.le_of_ble_eq_true rfl) rfl rfl (by decide) (by decide) (k_X12_readWhole hS3838.1 ta0) ?_
                            rintro v3857 cn' K' N' I3853 R3854 L3855 ⟨rfl, rfl, rfl, rfl, g3856, p3858, w3859, -⟩
                            have hS3860 := hS3838.tr g3856 (by decide +kernel) (by decide +kernel)
                            have c3861 : I3853 a1 0 = v29 := (g3856.cell ta1 (by decide +kernel)).trans c3839
                            have c3862 : I3853 a1 1 = v33 := (g3856.cell ta1 (by decide +kernel)).trans c3840
                            have b3863 : 0 ≤ v3857.toInt ∧ v3857.toInt ≤ 99 := by omega
                            clear p3858
                            have ov3864 := w3859.over (by rw [c3843]; omega)
                            obtain ⟨v3865, c3866⟩ : ∃ v, I3853 a0 9 = v := ⟨_, rfl⟩
                            have b3867 := iv15_9 hS3860.1 ta0 c3866
                            obtain ⟨v3868, c3869⟩ : ∃ v, I3853 a0 13 = v := ⟨_, rfl⟩
                            obtain ⟨v3870, c3871⟩ : ∃ v, I3853 a0 14 = v := ⟨_, rfl⟩
                            (try rw [c3866] at ov3864)
                            (try rw [c3869] at ov3864)
                            (try rw [c3871] at ov3864)
                            (try rw [c3843] at ov3864)
                            (try rw [c3846] at ov3864)
                            (try rw [c3848] at ov3864)
                            refine q_iast dX12_readAlp_78 (kR53 hS3860.1 ta3619) (ti_in (nR53 hS3860.1 ta3619) (by omega) (by omega)) hS3860 ta3619 (iokF rfl) rfl (by rfl) ?_
                            intro I3872 hS3873 e3875 f3874
                            have c3876 : I3872 a1 0 = v29 := (f3874 _ _ (fun q => by have z := ta1; rw [q.1, ta3619] at z; exact absurd z (by decide))).trans c3861
                            have c3877 : I3872 a1 1 = v33 := (f3874 _ _ (fun q => by have z := ta1; rw [q.1, ta3619] at z; exact absurd z (by decide))).trans c3862
                            have c3878 : I3872 a0 9 = v3865 := (f3874 _ _ (fun q => by have z := ta0; rw [q.1, ta3619] at z; exact absurd z (by decide))).trans c3866
                            have c3879 : I3872 a0 13 = v3868 := (f3874 _ _ (fun q => by have z := ta0; rw [q.1, ta3619] at z; exact absurd z (by decide))).trans c3869
                            have c3880 : I3872 a0 14 = v3870 := (f3874 _ _ (fun q => by have z := ta0; rw [q.1, ta3619] at z; exact absurd z (by decide))).trans c3871
                            refine q_iincE dX12_readAlp_79 rfl (by decide) (by decide) (by intros; omega) ?_
                            intro v3881 h3882
                            refine tr_goto 48 dX12_readAlp_82 (by decide) ?_
                            refine tr_iload_n dX12_readAlp_48 rfl ?_
                            refine q_iconst dX12_readAlp_49 (by decide) ?_
                            intro v3883 h3884
                            refine q_icmp_ge 85 dX12_readAlp_50 (by decide) (fun h3885 => ?_) (fun h3885 => ?_)
                            · skip
                              refine tr_aload_n dX12_readAlp_85 rfl ?_
                              refine q_getI dX12_readAlp_86 fl12_99 (kR15 hS3873.1 ta0) c3878 ?_
                              refine q_iconst dX12_readAlp_89 (by decide) ?_
                              intro v3886 h3887
                              refine q_icmp_ne 94 dX12_readAlp_90 (by decide) (fun h3888 => ?_) (fun h3888 => ?_)
                              · skip
                                exfalso; omega
                              · skip
                                have eF := hF.eq
                                have eP := hP.eq
                                obtain ⟨v3889, c3890⟩ : ∃ v, I3872 a0 10 = v := ⟨_, rfl⟩
                                have b3891 := iv15_10 hS3873.1 ta0 c3890
                                obtain ⟨v3892, c3893⟩ : ∃ v, I3872 a0 11 = v := ⟨_, rfl⟩
                                obtain ⟨y3894, c3895⟩ : ∃ v, L3855 a0 15 = v := ⟨_, rfl⟩
                                obtain ⟨v3896, c3897⟩ : ∃ v, I3872 a0 12 = v := ⟨_, rfl⟩
                                obtain ⟨v3898, c3899⟩ : ∃ v, I3872 a0 8 = v := ⟨_, rfl⟩
                                have b3900 := iv15_8 hS3873.1 ta0 c3899
                                exact tr_vret hZ dX12_readAlp_93 rfl (by decide) (by decide) ⟨rfl, rfl, rfl, rfl, rfl, hS3873, (Or.inr (⟨(by (try rw [w106]); first | done | omega), (by (try rw [w106]); (try rw [c3878]); first | done | omega), (by (try rw [w106]); (try rw [c3879]); first | done | omega), (by (try rw [w106]); (try rw [c3880]); first | done | omega), trivial⟩)), trivial⟩
                            · skip
                              exfalso; omega
          · skip
            exfalso; omega
      · skip
        obtain ⟨v3901, c3902⟩ : ∃ v, I189 a0 9 = v := ⟨_, rfl⟩
        have b3903 := iv15_9 hS197.1 ta0 c3902
        rw [c3902] at p232
        obtain ⟨v3904, c3905⟩ : ∃ v, I189 a0 13 = v := ⟨_, rfl⟩
        rw [c3905] at p233
        obtain ⟨v3906, c3907⟩ : ∃ v, I189 a0 14 = v := ⟨_, rfl⟩
        rw [c3907] at p234
        replace hF := hF.neg (by omega)
        replace hP := hP.neg (by omega)
        replace hF := hF.neg (by omega)
        replace hP := hP.neg (by omega)
        replace hF := hF.pos (by omega)
        replace hP := hP.pos (by omega)
        refine tr_istore_n dX12_readAlp_39 (by decide) (by decide) ?_
        refine tr_aload_n dX12_readAlp_40 rfl ?_
        refine tr_ldcS dX12_readAlp_41 ld12_255 ?_
        refine q_callVv hE (M' := mX12_needs) (as := [_]) dX12_readAlp_43 lk12_157 inX12_needs seX12_needs myX12_needs (by decide) ⟨by decide, by decide⟩ rfl (kR15 hS197.1 ta0) (Nat.le_of_ble_eq_true rfl) rfl rfl (by decide) (by decide) (k_X12_needs hS197.1 ta0 (by decide)) ?_
        rintro cn' K' N' I3908 R3909 L3910 ⟨rfl, rfl, rfl, rfl, g3911, w3913, -⟩
        have hS3914 := hS197.tr g3911 (by decide +kernel) (by decide +kernel)
        have c3915 : I3908 a1 0 = v29 := (g3911.cell ta1 (by decide +kernel)).trans c198
        have c3916 : I3908 a1 1 = v33 := (g3911.cell ta1 (by decide +kernel)).trans c199
        have ov3917 := w3913.over (by rw [c3902]; omega)
        obtain ⟨v3918, c3919⟩ : ∃ v, I3908 a0 9 = v := ⟨_, rfl⟩
        have b3920 := iv15_9 hS3914.1 ta0 c3919
        obtain ⟨v3921, c3922⟩ : ∃ v, I3908 a0 13 = v := ⟨_, rfl⟩
        obtain ⟨v3923, c3924⟩ : ∃ v, I3908 a0 14 = v := ⟨_, rfl⟩
        (try rw [c3919] at ov3917)
        (try rw [c3922] at ov3917)
        (try rw [c3924] at ov3917)
        (try rw [c3902] at ov3917)
        (try rw [c3905] at ov3917)
        (try rw [c3907] at ov3917)
        refine q_iconst dX12_readAlp_46 (by decide) ?_
        intro v3925 h3926
        refine tr_istore_n dX12_readAlp_47 (by decide) (by decide) ?_
        refine tr_iload_n dX12_readAlp_48 rfl ?_
        refine q_iconst dX12_readAlp_49 (by decide) ?_
        intro v3927 h3928
        refine q_icmp_ge 85 dX12_readAlp_50 (by decide) (fun h3929 => ?_) (fun h3929 => ?_)
        · skip
          exfalso; omega
        · skip
          refine tr_iload_n dX12_readAlp_53 rfl ?_
          refine q_if_le 63 dX12_readAlp_54 (by decide) (fun h3930 => ?_) (fun h3930 => ?_)
          · skip
            refine tr_aload_n dX12_readAlp_63 rfl ?_
            refine tr_getR dX12_readAlp_64 fl12_188 (kR15 hS3914.1 ta0) d2 ?_
            obtain ⟨a3931, d3932, ta3931⟩ := rf14_10 hW0 ta1
            refine tr_getR dX12_readAlp_67 fl12_260 (kR14 hS3914.1 ta1) d3932 ?_
            refine tr_iload_n dX12_readAlp_70 rfl ?_
            refine tr_aload_n dX12_readAlp_71 rfl ?_
            refine q_iconst dX12_readAlp_72 (by decide) ?_
            intro v3933 h3934
            refine q_bipush dX12_readAlp_73 (by decide +kernel) ?_
            intro v3935 h3936
            refine q_callVi hE (M' := mX12_readWhole) (as := [_, _]) dX12_readAlp_75 lk12_161 inX12_readWhole seX12_readWhole myX12_readWhole (by decide) ⟨by decide, by decide⟩ rfl (kR15 hS3914.1 ta0) (Nat.le_of_ble_eq_true rfl) rfl rfl (by decide) (by decide) (k_X12_readWhole hS3914.1 ta0) ?_
            rintro v3941 cn' K' N' I3937 R3938 L3939 ⟨rfl, rfl, rfl, rfl, g3940, p3942, w3943, -⟩
            have hS3944 := hS3914.tr g3940 (by decide +kernel) (by decide +kernel)
            have c3945 : I3937 a1 0 = v29 := (g3940.cell ta1 (by decide +kernel)).trans c3915
            have c3946 : I3937 a1 1 = v33 := (g3940.cell ta1 (by decide +kernel)).trans c3916
            have b3947 : 0 ≤ v3941.toInt ∧ v3941.toInt ≤ 99 := by omega
            clear p3942
            have ov3948 := w3943.over (by rw [c3919]; omega)
            obtain ⟨v3949, c3950⟩ : ∃ v, I3937 a0 9 = v := ⟨_, rfl⟩
            have b3951 := iv15_9 hS3944.1 ta0 c3950
            obtain ⟨v3952, c3953⟩ : ∃ v, I3937 a0 13 = v := ⟨_, rfl⟩
            obtain ⟨v3954, c3955⟩ : ∃ v, I3937 a0 14 = v := ⟨_, rfl⟩
            (try rw [c3950] at ov3948)
            (try rw [c3953] at ov3948)
            (try rw [c3955] at ov3948)
            (try rw [c3919] at ov3948)
            (try rw [c3922] at ov3948)
            (try rw [c3924] at ov3948)
            refine q_iast dX12_readAlp_78 (kR53 hS3944.1 ta3931) (ti_in (nR53 hS3944.1 ta3931) (by omega) (by omega)) hS3944 ta3931 (iokF rfl) rfl (by rfl) ?_
            intro I3956 hS3957 e3959 f3958
            have c3960 : I3956 a1 0 = v29 := (f3958 _ _ (fun q => by have z := ta1; rw [q.1, ta3931] at z; exact absurd z (by decide))).trans c3945
            have c3961 : I3956 a1 1 = v33 := (f3958 _ _ (fun q => by have z := ta1; rw [q.1, ta3931] at z; exact absurd z (by decide))).trans c3946
            have c3962 : I3956 a0 9 = v3949 := (f3958 _ _ (fun q => by have z := ta0; rw [q.1, ta3931] at z; exact absurd z (by decide))).trans c3950
            have c3963 : I3956 a0 13 = v3952 := (f3958 _ _ (fun q => by have z := ta0; rw [q.1, ta3931] at z; exact absurd z (by decide))).trans c3953
            have c3964 : I3956 a0 14 = v3954 := (f3958 _ _ (fun q => by have z := ta0; rw [q.1, ta3931] at z; exact absurd z (by decide))).trans c3955
            refine q_iincE dX12_readAlp_79 rfl (by decide) (by decide) (by intros; omega) ?_
            intro v3965 h3966
            refine tr_goto 48 dX12_readAlp_82 (by decide) ?_
            refine tr_iload_n dX12_readAlp_48 rfl ?_
            refine q_iconst dX12_readAlp_49 (by decide) ?_
            intro v3967 h3968
            refine q_icmp_ge 85 dX12_readAlp_50 (by decide) (fun h3969 => ?_) (fun h3969 => ?_)
            · skip
              exfalso; omega
            · skip
              refine tr_iload_n dX12_readAlp_53 rfl ?_
              refine q_if_le 63 dX12_readAlp_54 (by decide) (fun h3970 => ?_) (fun h3970 => ?_)
              · skip
                exfalso; omega
              · skip
                refine tr_aload_n dX12_readAlp_57 rfl ?_
                refine q_bipush dX12_readAlp_58 (by decide +kernel) ?_
                intro v3971 h3972
                refine q_callVv hE (M' := mX12_needsSign) (as := [_]) dX12_readAlp_60 lk12_257 inX12_needsSign seX12_needsSign myX12_needsSign (by decide) ⟨by decide, by decide⟩ rfl (kR15 hS3957.1 ta0) (Nat.le_of_ble_eq_true rfl) rfl rfl (by decide) (by decide) (k_X12_needsSign hS3957.1 ta0) ?_
                rintro cn' K' N' I3973 R3974 L3975 ⟨rfl, rfl, rfl, rfl, g3976, w3978, -⟩
                have hS3979 := hS3957.tr g3976 (by decide +kernel) (by decide +kernel)
                have c3980 : I3973 a1 0 = v29 := (g3976.cell ta1 (by decide +kernel)).trans c3960
                have c3981 : I3973 a1 1 = v33 := (g3976.cell ta1 (by decide +kernel)).trans c3961
                have ov3982 := w3978.over (by rw [c3962]; omega)
                obtain ⟨v3983, c3984⟩ : ∃ v, I3973 a0 9 = v := ⟨_, rfl⟩
                have b3985 := iv15_9 hS3979.1 ta0 c3984
                obtain ⟨v3986, c3987⟩ : ∃ v, I3973 a0 13 = v := ⟨_, rfl⟩
                obtain ⟨v3988, c3989⟩ : ∃ v, I3973 a0 14 = v := ⟨_, rfl⟩
                (try rw [c3984] at ov3982)
                (try rw [c3987] at ov3982)
                (try rw [c3989] at ov3982)
                (try rw [c3962] at ov3982)
                (try rw [c3963] at ov3982)
                (try rw [c3964] at ov3982)
                refine tr_aload_n dX12_readAlp_63 rfl ?_
                refine tr_getR dX12_readAlp_64 fl12_188 (kR15 hS3979.1 ta0) d2 ?_
                refine tr_getR dX12_readAlp_67 fl12_260 (kR14 hS3979.1 ta1) d3932 ?_
                refine tr_iload_n dX12_readAlp_70 rfl ?_
                refine tr_aload_n dX12_readAlp_71 rfl ?_
                refine q_iconst dX12_readAlp_72 (by decide) ?_
                intro v3990 h3991
                refine q_bipush dX12_readAlp_73 (by decide +kernel) ?_
                intro v3992 h3993
                refine q_callVi hE (M' := mX12_readWhole) (as := [_, _]) dX12_readAlp_75 lk12_161 inX12_readWhole seX12_readWhole myX12_readWhole (by decide) ⟨by decide, by decide⟩ rfl (kR15 hS3979.1 ta0) (Nat.le_of_ble_eq_true rfl) rfl rfl (by decide) (by decide) (k_X12_readWhole hS3979.1 ta0) ?_
                rintro v3998 cn' K' N' I3994 R3995 L3996 ⟨rfl, rfl, rfl, rfl, g3997, p3999, w4000, -⟩
                have hS4001 := hS3979.tr g3997 (by decide +kernel) (by decide +kernel)
                have c4002 : I3994 a1 0 = v29 := (g3997.cell ta1 (by decide +kernel)).trans c3980
                have c4003 : I3994 a1 1 = v33 := (g3997.cell ta1 (by decide +kernel)).trans c3981
                have b4004 : 0 ≤ v3998.toInt ∧ v3998.toInt ≤ 99 := by omega
                clear p3999
                have ov4005 := w4000.over (by rw [c3984]; omega)
                obtain ⟨v4006, c4007⟩ : ∃ v, I3994 a0 9 = v := ⟨_, rfl⟩
                have b4008 := iv15_9 hS4001.1 ta0 c4007
                obtain ⟨v4009, c4010⟩ : ∃ v, I3994 a0 13 = v := ⟨_, rfl⟩
                obtain ⟨v4011, c4012⟩ : ∃ v, I3994 a0 14 = v := ⟨_, rfl⟩
                (try rw [c4007] at ov4005)
                (try rw [c4010] at ov4005)
                (try rw [c4012] at ov4005)
                (try rw [c3984] at ov4005)
                (try rw [c3987] at ov4005)
                (try rw [c3989] at ov4005)
                refine q_iast dX12_readAlp_78 (kR53 hS4001.1 ta3931) (ti_in (nR53 hS4001.1 ta3931) (by omega) (by omega)) hS4001 ta3931 (iokF rfl) rfl (by rfl) ?_
                intro I4013 hS4014 e4016 f4015
                have c4017 : I4013 a1 0 = v29 := (f4015 _ _ (fun q => by have z := ta1; rw [q.1, ta3931] at z; exact absurd z (by decide))).trans c4002
                have c4018 : I4013 a1 1 = v33 := (f4015 _ _ (fun q => by have z := ta1; rw [q.1, ta3931] at z; exact absurd z (by decide))).trans c4003
                have c4019 : I4013 a0 9 = v4006 := (f4015 _ _ (fun q => by have z := ta0; rw [q.1, ta3931] at z; exact absurd z (by decide))).trans c4007
                have c4020 : I4013 a0 13 = v4009 := (f4015 _ _ (fun q => by have z := ta0; rw [q.1, ta3931] at z; exact absurd z (by decide))).trans c4010
                have c4021 : I4013 a0 14 = v4011 := (f4015 _ _ (fun q => by have z := ta0; rw [q.1, ta3931] at z; exact absurd z (by decide))).trans c4012
                refine q_iincE dX12_readAlp_79 rfl (by decide) (by decide) (by intros; omega) ?_
                intro v4022 h4023
                refine tr_goto 48 dX12_readAlp_82 (by decide) ?_
                refine tr_iload_n dX12_readAlp_48 rfl ?_
                refine q_iconst dX12_readAlp_49 (by decide) ?_
                intro v4024 h4025
                refine q_icmp_ge 85 dX12_readAlp_50 (by decide) (fun h4026 => ?_) (fun h4026 => ?_)
                · skip
                  exfalso; omega
                · skip
                  refine tr_iload_n dX12_readAlp_53 rfl ?_
                  refine q_if_le 63 dX12_readAlp_54 (by decide) (fun h4027 => ?_) (fun h4027 => ?_)
                  · skip
                    exfalso; omega
                  · skip
                    refine tr_aload_n dX12_readAlp_57 rfl ?_
                    refine q_bipush dX12_readAlp_58 (by decide +kernel) ?_
                    intro v4028 h4029
                    refine q_callVv hE (M' := mX12_needsSign) (as := [_]) dX12_readAlp_60 lk12_257 inX12_needsSign seX12_needsSign myX12_needsSign (by decide) ⟨by decide, by decide⟩ rfl (kR15 hS4014.1 ta0) (Nat.le_of_ble_eq_true rfl) rfl rfl (by decide) (by decide) (k_X12_needsSign hS4014.1 ta0) ?_
                    rintro cn' K' N' I4030 R4031 L4032 ⟨rfl, rfl, rfl, rfl, g4033, w4035, -⟩
                    have hS4036 := hS4014.tr g4033 (by decide +kernel) (by decide +kernel)
                    have c4037 : I4030 a1 0 = v29 := (g4033.cell ta1 (by decide +kernel)).trans c4017
                    have c4038 : I4030 a1 1 = v33 := (g4033.cell ta1 (by decide +kernel)).trans c4018
                    have ov4039 := w4035.over (by rw [c4019]; omega)
                    obtain ⟨v4040, c4041⟩ : ∃ v, I4030 a0 9 = v := ⟨_, rfl⟩
                    have b4042 := iv15_9 hS4036.1 ta0 c4041
                    obtain ⟨v4043, c4044⟩ : ∃ v, I4030 a0 13 = v := ⟨_, rfl⟩
                    obtain ⟨v4045, c4046⟩ : ∃ v, I4030 a0 14 = v := ⟨_, rfl⟩
                    (try rw [c4041] at ov4039)
                    (try rw [c4044] at ov4039)
                    (try rw [c4046] at ov4039)
                    (try rw [c4019] at ov4039)
                    (try rw [c4020] at ov4039)
                    (try rw [c4021] at ov4039)
                    refine tr_aload_n dX12_readAlp_63 rfl ?_
                    refine tr_getR dX12_readAlp_64 fl12_188 (kR15 hS4036.1 ta0) d2 ?_
                    refine tr_getR dX12_readAlp_67 fl12_260 (kR14 hS4036.1 ta1) d3932 ?_
                    refine tr_iload_n dX12_readAlp_70 rfl ?_
                    refine tr_aload_n dX12_readAlp_71 rfl ?_
                    refine q_iconst dX12_readAlp_72 (by decide) ?_
                    intro v4047 h4048
                    refine q_bipush dX12_readAlp_73 (by decide +kernel) ?_
                    intro v4049 h4050
                    refine q_callVi hE (M' := mX12_readWhole) (as := [_, _]) dX12_readAlp_75 lk12_161 inX12_readWhole seX12_readWhole myX12_readWhole (by decide) ⟨by decide, by decide⟩ rfl (kR15 hS4036.1 ta0) (Nat.le_of_ble_eq_true rfl) rfl rfl (by decide) (by decide) (k_X12_readWhole hS4036.1 ta0) ?_
                    rintro v4055 cn' K' N' I4051 R4052 L4053 ⟨rfl, rfl, rfl, rfl, g4054, p4056, w4057, -⟩
                    have hS4058 := hS4036.tr g4054 (by decide +kernel) (by decide +kernel)
                    have c4059 : I4051 a1 0 = v29 := (g4054.cell ta1 (by decide +kernel)).trans c4037
                    have c4060 : I4051 a1 1 = v33 := (g4054.cell ta1 (by decide +kernel)).trans c4038
                    have b4061 : 0 ≤ v4055.toInt ∧ v4055.toInt ≤ 99 := by omega
                    clear p4056
                    have ov4062 := w4057.over (by rw [c4041]; omega)
                    obtain ⟨v4063, c4064⟩ : ∃ v, I4051 a0 9 = v := ⟨_, rfl⟩
                    have b4065 := iv15_9 hS4058.1 ta0 c4064
                    obtain ⟨v4066, c4067⟩ : ∃ v, I4051 a0 13 = v := ⟨_, rfl⟩
                    obtain ⟨v4068, c4069⟩ : ∃ v, I4051 a0 14 = v := ⟨_, rfl⟩
                    (try rw [c4064] at ov4062)
                    (try rw [c4067] at ov4062)
                    (try rw [c4069] at ov4062)
                    (try rw [c4041] at ov4062)
                    (try rw [c4044] at ov4062)
                    (try rw [c4046] at ov4062)
                    refine q_iast dX12_readAlp_78 (kR53 hS4058.1 ta3931) (ti_in (nR53 hS4058.1 ta3931) (by omega) (by omega)) hS4058 ta3931 (iokF rfl) rfl (by rfl) ?_
                    intro I4070 hS4071 e4073 f4072
                    have c4074 : I4070 a1 0 = v29 := (f4072 _ _ (fun q => by have z := ta1; rw [q.1, ta3931] at z; exact absurd z (by decide))).trans c4059
                    have c4075 : I4070 a1 1 = v33 := (f4072 _ _ (fun q => by have z := ta1; rw [q.1, ta3931] at z; exact absurd z (by decide))).trans c4060
                    have c4076 : I4070 a0 9 = v4063 := (f4072 _ _ (fun q => by have z := ta0; rw [q.1, ta3931] at z; exact absurd z (by decide))).trans c4064
                    have c4077 : I4070 a0 13 = v4066 := (f4072 _ _ (fun q => by have z := ta0; rw [q.1, ta3931] at z; exact absurd z (by decide))).trans c4067
                    have c4078 : I4070 a0 14 = v4068 := (f4072 _ _ (fun q => by have z := ta0; rw [q.1, ta3931] at z; exact absurd z (by decide))).trans c4069
                    refine q_iincE dX12_readAlp_79 rfl (by decide) (by decide) (by intros; omega) ?_
                    intro v4079 h4080
                    refine tr_goto 48 dX12_readAlp_82 (by decide) ?_
                    refine tr_iload_n dX12_readAlp_48 rfl ?_
                    refine q_iconst dX12_readAlp_49 (by decide) ?_
                    intro v4081 h4082
                    refine q_icmp_ge 85 dX12_readAlp_50 (by decide) (fun h4083 => ?_) (fun h4083 => ?_)
                    · skip
                      exfalso; omega
                    · skip
                      refine tr_iload_n dX12_readAlp_53 rfl ?_
                      refine q_if_le 63 dX12_readAlp_54 (by decide) (fun h4084 => ?_) (fun h4084 => ?_)
                      · skip
                        exfalso; omega
                      · skip
                        refine tr_aload_n dX12_readAlp_57 rfl ?_
                        refine q_bipush dX12_readAlp_58 (by decide +kernel) ?_
                        intro v4085 h4086
                        refine q_callVv hE (M' := mX12_needsSign) (as := [_]) dX12_readAlp_60 lk12_257 inX12_needsSign seX12_needsSign myX12_needsSign (by decide) ⟨by decide, by decide⟩ rfl (kR15 hS4071.1 ta0) (Nat.le_of_ble_eq_true rfl) rfl rfl (by decide) (by decide) (k_X12_needsSign hS4071.1 ta0) ?_
                        rintro cn' K' N' I4087 R4088 L4089 ⟨rfl, rfl, rfl, rfl, g4090, w4092, -⟩
                        have hS4093 := hS4071.tr g4090 (by decide +kernel) (by decide +kernel)
                        have c4094 : I4087 a1 0 = v29 := (g4090.cell ta1 (by decide +kernel)).trans c4074
                        have c4095 : I4087 a1 1 = v33 := (g4090.cell ta1 (by decide +kernel)).trans c4075
                        have ov4096 := w4092.over (by rw [c4076]; omega)
                        obtain ⟨v4097, c4098⟩ : ∃ v, I4087 a0 9 = v := ⟨_, rfl⟩
                        have b4099 := iv15_9 hS4093.1 ta0 c4098
                        obtain ⟨v4100, c4101⟩ : ∃ v, I4087 a0 13 = v := ⟨_, rfl⟩
                        obtain ⟨v4102, c4103⟩ : ∃ v, I4087 a0 14 = v := ⟨_, rfl⟩
                        (try rw [c4098] at ov4096)
                        (try rw [c4101] at ov4096)
                        (try rw [c4103] at ov4096)
                        (try rw [c4076] at ov4096)
                        (try rw [c4077] at ov4096)
                        (try rw [c4078] at ov4096)
                        refine tr_aload_n dX12_readAlp_63 rfl ?_
                        refine tr_getR dX12_readAlp_64 fl12_188 (kR15 hS4093.1 ta0) d2 ?_
                        refine tr_getR dX12_readAlp_67 fl12_260 (kR14 hS4093.1 ta1) d3932 ?_
                        refine tr_iload_n dX12_readAlp_70 rfl ?_
                        refine tr_aload_n dX12_readAlp_71 rfl ?_
                        refine q_iconst dX12_readAlp_72 (by decide) ?_
                        intro v4104 h4105
                        refine q_bipush dX12_readAlp_73 (by decide +kernel) ?_
                        intro v4106 h4107
                        refine q_callVi hE (M' := mX12_readWhole) (as := [_, _]) dX12_readAlp_75 lk12_161 inX12_readWhole seX12_readWhole myX12_readWhole (by decide) ⟨by decide, by decide⟩ rfl (kR15 hS4093.1 ta0) (Nat.le_of_ble_eq_true rfl) rfl rfl (by decide) (by decide) (k_X12_readWhole hS4093.1 ta0) ?_
                        rintro v4112 cn' K' N' I4108 R4109 L4110 ⟨rfl, rfl, rfl, rfl, g4111, p4113, w4114, -⟩
                        have hS4115 := hS4093.tr g4111 (by decide +kernel) (by decide +kernel)
                        have c4116 : I4108 a1 0 = v29 := (g4111.cell ta1 (by decide +kernel)).trans c4094
                        have c4117 : I4108 a1 1 = v33 := (g4111.cell ta1 (by decide +kernel)).trans c4095
                        have b4118 : 0 ≤ v4112.toInt ∧ v4112.toInt ≤ 99 := by omega
                        clear p4113
                        have ov4119 := w4114.over (by rw [c4098]; omega)
                        obtain ⟨v4120, c4121⟩ : ∃ v, I4108 a0 9 = v := ⟨_, rfl⟩
                        have b4122 := iv15_9 hS4115.1 ta0 c4121
                        obtain ⟨v4123, c4124⟩ : ∃ v, I4108 a0 13 = v := ⟨_, rfl⟩
                        obtain ⟨v4125, c4126⟩ : ∃ v, I4108 a0 14 = v := ⟨_, rfl⟩
                        (try rw [c4121] at ov4119)
                        (try rw [c4124] at ov4119)
                        (try rw [c4126] at ov4119)
                        (try rw [c4098] at ov4119)
                        (try rw [c4101] at ov4119)
                        (try rw [c4103] at ov4119)
                        refine q_iast dX12_readAlp_78 (kR53 hS4115.1 ta3931) (ti_in (nR53 hS4115.1 ta3931) (by omega) (by omega)) hS4115 ta3931 (iokF rfl) rfl (by rfl) ?_
                        intro I4127 hS4128 e4130 f4129
                        have c4131 : I4127 a1 0 = v29 := (f4129 _ _ (fun q => by have z := ta1; rw [q.1, ta3931] at z; exact absurd z (by decide))).trans c4116
                        have c4132 : I4127 a1 1 = v33 := (f4129 _ _ (fun q => by have z := ta1; rw [q.1, ta3931] at z; exact absurd z (by decide))).trans c4117
                        have c4133 : I4127 a0 9 = v4120 := (f4129 _ _ (fun q => by have z := ta0; rw [q.1, ta3931] at z; exact absurd z (by decide))).trans c4121
                        have c4134 : I4127 a0 13 = v4123 := (f4129 _ _ (fun q => by have z := ta0; rw [q.1, ta3931] at z; exact absurd z (by decide))).trans c4124
                        have c4135 : I4127 a0 14 = v4125 := (f4129 _ _ (fun q => by have z := ta0; rw [q.1, ta3931] at z; exact absurd z (by decide))).trans c4126
                        refine q_iincE dX12_readAlp_79 rfl (by decide) (by decide) (by intros; omega) ?_
                        intro v4136 h4137
                        refine tr_goto 48 dX12_readAlp_82 (by decide) ?_
                        refine tr_iload_n dX12_readAlp_48 rfl ?_
                        refine q_iconst dX12_readAlp_49 (by decide) ?_
                        intro v4138 h4139
                        refine q_icmp_ge 85 dX12_readAlp_50 (by decide) (fun h4140 => ?_) (fun h4140 => ?_)
                        · skip
                          exfalso; omega
                        · skip
                          refine tr_iload_n dX12_readAlp_53 rfl ?_
                          refine q_if_le 63 dX12_readAlp_54 (by decide) (fun h4141 => ?_) (fun h4141 => ?_)
                          · skip
                            exfalso; omega
                          · skip
                            refine tr_aload_n dX12_readAlp_57 rfl ?_
                            refine q_bipush dX12_readAlp_58 (by decide +kernel) ?_
                            intro v4142 h4143
                            refine q_callVv hE (M' := mX12_needsSign) (as := [_]) dX12_readAlp_60 lk12_257 inX12_needsSign seX12_needsSign myX12_needsSign (by decide) ⟨by decide, by decide⟩ rfl (kR15 hS4128.1 ta0) (Nat.le_of_ble_eq_true rfl) rfl rfl (by decide) (by decide) (k_X12_needsSign hS4128.1 ta0) ?_
                            rintro cn' K' N' I4144 R4145 L4146 ⟨rfl, rfl, rfl, rfl, g4147, w4149, -⟩
                            have hS4150 := hS4128.tr g4147 (by decide +kernel) (by decide +kernel)
                            have c4151 : I4144 a1 0 = v29 := (g4147.cell ta1 (by decide +kernel)).trans c4131
                            have c4152 : I4144 a1 1 = v33 := (g4147.cell ta1 (by decide +kernel)).trans c4132
                            have ov4153 := w4149.over (by rw [c4133]; omega)
                            obtain ⟨v4154, c4155⟩ : ∃ v, I4144 a0 9 = v := ⟨_, rfl⟩
                            have b4156 := iv15_9 hS4150.1 ta0 c4155
                            obtain ⟨v4157, c4158⟩ : ∃ v, I4144 a0 13 = v := ⟨_, rfl⟩
                            obtain ⟨v4159, c4160⟩ : ∃ v, I4144 a0 14 = v := ⟨_, rfl⟩
                            (try rw [c4155] at ov4153)
                            (try rw [c4158] at ov4153)
                            (try rw [c4160] at ov4153)
                            (try rw [c4133] at ov4153)
                            (try rw [c4134] at ov4153)
                            (try rw [c4135] at ov4153)
                            refine tr_aload_n dX12_readAlp_63 rfl ?_
                            refine tr_getR dX12_readAlp_64 fl12_188 (kR15 hS4150.1 ta0) d2 ?_
                            refine tr_getR dX12_readAlp_67 fl12_260 (kR14 hS4150.1 ta1) d3932 ?_
                            refine tr_iload_n dX12_readAlp_70 rfl ?_
                            refine tr_aload_n dX12_readAlp_71 rfl ?_
                            refine q_iconst dX12_readAlp_72 (by decide) ?_
                            intro v4161 h4162
                            refine q_bipush dX12_readAlp_73 (by decide +kernel) ?_
                            intro v4163 h4164
                            refine q_callVi hE (M' := mX12_readWhole) (as := [_, _]) dX12_readAlp_75 lk12_161 inX12_readWhole seX12_readWhole myX12_readWhole (by decide) ⟨by decide, by decide⟩ rfl (kR15 hS4150.1 ta0) (Nat.le_of_ble_eq_true rfl) rfl rfl (by decide) (by decide) (k_X12_readWhole hS4150.1 ta0) ?_
                            rintro v4169 cn' K' N' I4165 R4166 L4167 ⟨rfl, rfl, rfl, rfl, g4168, p4170, w4171, -⟩
                            have hS4172 := hS4150.tr g4168 (by decide +kernel) (by decide +kernel)
                            have c4173 : I4165 a1 0 = v29 := (g4168.cell ta1 (by decide +kernel)).trans c4151
                            have c4174 : I4165 a1 1 = v33 := (g4168.cell ta1 (by decide +kernel)).trans c4152
                            have b4175 : 0 ≤ v4169.toInt ∧ v4169.toInt ≤ 99 := by omega
                            clear p4170
                            have ov4176 := w4171.over (by rw [c4155]; omega)
                            obtain ⟨v4177, c4178⟩ : ∃ v, I4165 a0 9 = v := ⟨_, rfl⟩
                            have b4179 := iv15_9 hS4172.1 ta0 c4178
                            obtain ⟨v4180, c4181⟩ : ∃ v, I4165 a0 13 = v := ⟨_, rfl⟩
                            obtain ⟨v4182, c4183⟩ : ∃ v, I4165 a0 14 = v := ⟨_, rfl⟩
                            (try rw [c4178] at ov4176)
                            (try rw [c4181] at ov4176)
                            (try rw [c4183] at ov4176)
                            (try rw [c4155] at ov4176)
                            (try rw [c4158] at ov4176)
                            (try rw [c4160] at ov4176)
                            refine q_iast dX12_readAlp_78 (kR53 hS4172.1 ta3931) (ti_in (nR53 hS4172.1 ta3931) (by omega) (by omega)) hS4172 ta3931 (iokF rfl) rfl (by rfl) ?_
                            intro I4184 hS4185 e4187 f4186
                            have c4188 : I4184 a1 0 = v29 := (f4186 _ _ (fun q => by have z := ta1; rw [q.1, ta3931] at z; exact absurd z (by decide))).trans c4173
                            have c4189 : I4184 a1 1 = v33 := (f4186 _ _ (fun q => by have z := ta1; rw [q.1, ta3931] at z; exact absurd z (by decide))).trans c4174
                            have c4190 : I4184 a0 9 = v4177 := (f4186 _ _ (fun q => by have z := ta0; rw [q.1, ta3931] at z; exact absurd z (by decide))).trans c4178
                            have c4191 : I4184 a0 13 = v4180 := (f4186 _ _ (fun q => by have z := ta0; rw [q.1, ta3931] at z; exact absurd z (by decide))).trans c4181
                            have c4192 : I4184 a0 14 = v4182 := (f4186 _ _ (fun q => by have z := ta0; rw [q.1, ta3931] at z; exact absurd z (by decide))).trans c4183
                            refine q_iincE dX12_readAlp_79 rfl (by decide) (by decide) (by intros; omega) ?_
                            intro v4193 h4194
                            refine tr_goto 48 dX12_readAlp_82 (by decide) ?_
                            refine tr_iload_n dX12_readAlp_48 rfl ?_
                            refine q_iconst dX12_readAlp_49 (by decide) ?_
                            intro v4195 h4196
                            refine q_icmp_ge 85 dX12_readAlp_50 (by decide) (fun h4197 => ?_) (fun h4197 => ?_)
                            · skip
                              refine tr_aload_n dX12_readAlp_85 rfl ?_
                              refine q_getI dX12_readAlp_86 fl12_99 (kR15 hS4185.1 ta0) c4190 ?_
                              refine q_iconst dX12_readAlp_89 (by decide) ?_
                              intro v4198 h4199
                              refine q_icmp_ne 94 dX12_readAlp_90 (by decide) (fun h4200 => ?_) (fun h4200 => ?_)
                              · skip
                                exfalso; omega
                              · skip
                                have eF := hF.eq
                                have eP := hP.eq
                                obtain ⟨v4201, c4202⟩ : ∃ v, I4184 a0 10 = v := ⟨_, rfl⟩
                                have b4203 := iv15_10 hS4185.1 ta0 c4202
                                obtain ⟨v4204, c4205⟩ : ∃ v, I4184 a0 11 = v := ⟨_, rfl⟩
                                obtain ⟨y4206, c4207⟩ : ∃ v, L4167 a0 15 = v := ⟨_, rfl⟩
                                obtain ⟨v4208, c4209⟩ : ∃ v, I4184 a0 12 = v := ⟨_, rfl⟩
                                obtain ⟨v4210, c4211⟩ : ∃ v, I4184 a0 8 = v := ⟨_, rfl⟩
                                have b4212 := iv15_8 hS4185.1 ta0 c4211
                                exact tr_vret hZ dX12_readAlp_93 rfl (by decide) (by decide) ⟨rfl, rfl, rfl, rfl, rfl, hS4185, (Or.inr (⟨(by (try rw [w106]); first | done | omega), (by (try rw [w106]); (try rw [c4190]); first | done | omega), (by (try rw [w106]); (try rw [c4191]); first | done | omega), (by (try rw [w106]); (try rw [c4192]); first | done | omega), trivial⟩)), trivial⟩
                            · skip
                              exfalso; omega
          · skip
            exfalso; omega
    · skip
      obtain ⟨v4213, c4214⟩ : ∃ v, I120 a0 9 = v := ⟨_, rfl⟩
      have b4215 := iv15_9 hS128.1 ta0 c4214
      rw [c4214] at p148
      obtain ⟨v4216, c4217⟩ : ∃ v, I120 a0 13 = v := ⟨_, rfl⟩
      rw [c4217] at p149
      obtain ⟨v4218, c4219⟩ : ∃ v, I120 a0 14 = v := ⟨_, rfl⟩
      rw [c4219] at p150
      replace hF := hF.pos (by omega)
      replace hP := hP.pos (by omega)
      refine tr_istore_n dX12_readAlp_30 (by decide) (by decide) ?_
      refine tr_aload_n dX12_readAlp_31 rfl ?_
      refine tr_ldcS dX12_readAlp_32 ld12_253 ?_
      refine q_iconst dX12_readAlp_34 (by decide) ?_
      intro v4220 h4221
      refine q_iconst dX12_readAlp_35 (by decide) ?_
      intro v4222 h4223
      refine q_callVi hE (M' := mX12_readPart) (as := [_, _, _]) dX12_readAlp_36 lk12_249 inX12_readPart seX12_readPart myX12_readPart (by decide) ⟨by decide, by decide⟩ rfl (kR15 hS128.1 ta0) (Nat.le_of_ble_eq_true rfl) rfl rfl (by decide) (by decide) (k_X12_readPart hS128.1 ta0 (by decide)) ?_
      rintro v4228 cn' K' N' I4224 R4225 L4226 ⟨rfl, rfl, rfl, rfl, g4227, p4229, w4230, -⟩
      have hS4231 := hS128.tr g4227 (by decide +kernel) (by decide +kernel)
      have c4232 : I4224 a1 0 = v29 := (g4227.cell ta1 (by decide +kernel)).trans c129
      have c4233 : I4224 a1 1 = v33 := (g4227.cell ta1 (by decide +kernel)).trans c130
      have b4234 : 1 ≤ v4228.toInt ∧ v4228.toInt ≤ 4 := by omega
      clear p4229
      have ov4235 := w4230.over (by rw [c4214]; omega)
      obtain ⟨v4236, c4237⟩ : ∃ v, I4224 a0 9 = v := ⟨_, rfl⟩
      have b4238 := iv15_9 hS4231.1 ta0 c4237
      obtain ⟨v4239, c4240⟩ : ∃ v, I4224 a0 13 = v := ⟨_, rfl⟩
      obtain ⟨v4241, c4242⟩ : ∃ v, I4224 a0 14 = v := ⟨_, rfl⟩
      (try rw [c4237] at ov4235)
      (try rw [c4240] at ov4235)
      (try rw [c4242] at ov4235)
      (try rw [c4214] at ov4235)
      (try rw [c4217] at ov4235)
      (try rw [c4219] at ov4235)
      refine tr_istore_n dX12_readAlp_39 (by decide) (by decide) ?_
      refine tr_aload_n dX12_readAlp_40 rfl ?_
      refine tr_ldcS dX12_readAlp_41 ld12_255 ?_
      refine q_callVv hE (M' := mX12_needs) (as := [_]) dX12_readAlp_43 lk12_157 inX12_needs seX12_needs myX12_needs (by decide) ⟨by decide, by decide⟩ rfl (kR15 hS4231.1 ta0) (Nat.le_of_ble_eq_true rfl) rfl rfl (by decide) (by decide) (k_X12_needs hS4231.1 ta0 (by decide)) ?_
      rintro cn' K' N' I4243 R4244 L4245 ⟨rfl, rfl, rfl, rfl, g4246, w4248, -⟩
      have hS4249 := hS4231.tr g4246 (by decide +kernel) (by decide +kernel)
      have c4250 : I4243 a1 0 = v29 := (g4246.cell ta1 (by decide +kernel)).trans c4232
      have c4251 : I4243 a1 1 = v33 := (g4246.cell ta1 (by decide +kernel)).trans c4233
      have ov4252 := w4248.over (by rw [c4237]; omega)
      obtain ⟨v4253, c4254⟩ : ∃ v, I4243 a0 9 = v := ⟨_, rfl⟩
      have b4255 := iv15_9 hS4249.1 ta0 c4254
      obtain ⟨v4256, c4257⟩ : ∃ v, I4243 a0 13 = v := ⟨_, rfl⟩
      obtain ⟨v4258, c4259⟩ : ∃ v, I4243 a0 14 = v := ⟨_, rfl⟩
      (try rw [c4254] at ov4252)
      (try rw [c4257] at ov4252)
      (try rw [c4259] at ov4252)
      (try rw [c4237] at ov4252)
      (try rw [c4240] at ov4252)
      (try rw [c4242] at ov4252)
      refine q_iconst dX12_readAlp_46 (by decide) ?_
      intro v4260 h4261
      refine tr_istore_n dX12_readAlp_47 (by decide) (by decide) ?_
      refine tr_iload_n dX12_readAlp_48 rfl ?_
      refine q_iconst dX12_readAlp_49 (by decide) ?_
      intro v4262 h4263
      refine q_icmp_ge 85 dX12_readAlp_50 (by decide) (fun h4264 => ?_) (fun h4264 => ?_)
      · skip
        exfalso; omega
      · skip
        refine tr_iload_n dX12_readAlp_53 rfl ?_
        refine q_if_le 63 dX12_readAlp_54 (by decide) (fun h4265 => ?_) (fun h4265 => ?_)
        · skip
          refine tr_aload_n dX12_readAlp_63 rfl ?_
          refine tr_getR dX12_readAlp_64 fl12_188 (kR15 hS4249.1 ta0) d2 ?_
          obtain ⟨a4266, d4267, ta4266⟩ := rf14_10 hW0 ta1
          refine tr_getR dX12_readAlp_67 fl12_260 (kR14 hS4249.1 ta1) d4267 ?_
          refine tr_iload_n dX12_readAlp_70 rfl ?_
          refine tr_aload_n dX12_readAlp_71 rfl ?_
          refine q_iconst dX12_readAlp_72 (by decide) ?_
          intro v4268 h4269
          refine q_bipush dX12_readAlp_73 (by decide +kernel) ?_
          intro v4270 h4271
          refine q_callVi hE (M' := mX12_readWhole) (as := [_, _]) dX12_readAlp_75 lk12_161 inX12_readWhole seX12_readWhole myX12_readWhole (by decide) ⟨by decide, by decide⟩ rfl (kR15 hS4249.1 ta0) (Nat.le_of_ble_eq_true rfl) rfl rfl (by decide) (by decide) (k_X12_readWhole hS4249.1 ta0) ?_
          rintro v4276 cn' K' N' I4272 R4273 L4274 ⟨rfl, rfl, rfl, rfl, g4275, p4277, w4278, -⟩
          have hS4279 := hS4249.tr g4275 (by decide +kernel) (by decide +kernel)
          have c4280 : I4272 a1 0 = v29 := (g4275.cell ta1 (by decide +kernel)).trans c4250
          have c4281 : I4272 a1 1 = v33 := (g4275.cell ta1 (by decide +kernel)).trans c4251
          have b4282 : 0 ≤ v4276.toInt ∧ v4276.toInt ≤ 99 := by omega
          clear p4277
          have ov4283 := w4278.over (by rw [c4254]; omega)
          obtain ⟨v4284, c4285⟩ : ∃ v, I4272 a0 9 = v := ⟨_, rfl⟩
          have b4286 := iv15_9 hS4279.1 ta0 c4285
          obtain ⟨v4287, c4288⟩ : ∃ v, I4272 a0 13 = v := ⟨_, rfl⟩
          obtain ⟨v4289, c4290⟩ : ∃ v, I4272 a0 14 = v := ⟨_, rfl⟩
          (try rw [c4285] at ov4283)
          (try rw [c4288] at ov4283)
          (try rw [c4290] at ov4283)
          (try rw [c4254] at ov4283)
          (try rw [c4257] at ov4283)
          (try rw [c4259] at ov4283)
          refine q_iast dX12_readAlp_78 (kR53 hS4279.1 ta4266) (ti_in (nR53 hS4279.1 ta4266) (by omega) (by omega)) hS4279 ta4266 (iokF rfl) rfl (by rfl) ?_
          intro I4291 hS4292 e4294 f4293
          have c4295 : I4291 a1 0 = v29 := (f4293 _ _ (fun q => by have z := ta1; rw [q.1, ta4266] at z; exact absurd z (by decide))).trans c4280
          have c4296 : I4291 a1 1 = v33 := (f4293 _ _ (fun q => by have z := ta1; rw [q.1, ta4266] at z; exact absurd z (by decide))).trans c4281
          have c4297 : I4291 a0 9 = v4284 := (f4293 _ _ (fun q => by have z := ta0; rw [q.1, ta4266] at z; exact absurd z (by decide))).trans c4285
          have c4298 : I4291 a0 13 = v4287 := (f4293 _ _ (fun q => by have z := ta0; rw [q.1, ta4266] at z; exact absurd z (by decide))).trans c4288
          have c4299 : I4291 a0 14 = v4289 := (f4293 _ _ (fun q => by have z := ta0; rw [q.1, ta4266] at z; exact absurd z (by decide))).trans c4290
          refine q_iincE dX12_readAlp_79 rfl (by decide) (by decide) (by intros; omega) ?_
          intro v4300 h4301
          refine tr_goto 48 dX12_readAlp_82 (by decide) ?_
          refine tr_iload_n dX12_readAlp_48 rfl ?_
          refine q_iconst dX12_readAlp_49 (by decide) ?_
          intro v4302 h4303
          refine q_icmp_ge 85 dX12_readAlp_50 (by decide) (fun h4304 => ?_) (fun h4304 => ?_)
          · skip
            exfalso; omega
          · skip
            refine tr_iload_n dX12_readAlp_53 rfl ?_
            refine q_if_le 63 dX12_readAlp_54 (by decide) (fun h4305 => ?_) (fun h4305 => ?_)
            · skip
              exfalso; omega
            · skip
              refine tr_aload_n dX12_readAlp_57 rfl ?_
              refine q_bipush dX12_readAlp_58 (by decide +kernel) ?_
              intro v4306 h4307
              refine q_callVv hE (M' := mX12_needsSign) (as := [_]) dX12_readAlp_60 lk12_257 inX12_needsSign seX12_needsSign myX12_needsSign (by decide) ⟨by decide, by decide⟩ rfl (kR15 hS4292.1 ta0) (Nat.le_of_ble_eq_true rfl) rfl rfl (by decide) (by decide) (k_X12_needsSign hS4292.1 ta0) ?_
              rintro cn' K' N' I4308 R4309 L4310 ⟨rfl, rfl, rfl, rfl, g4311, w4313, -⟩
              have hS4314 := hS4292.tr g4311 (by decide +kernel) (by decide +kernel)
              have c4315 : I4308 a1 0 = v29 := (g4311.cell ta1 (by decide +kernel)).trans c4295
              have c4316 : I4308 a1 1 = v33 := (g4311.cell ta1 (by decide +kernel)).trans c4296
              have ov4317 := w4313.over (by rw [c4297]; omega)
              obtain ⟨v4318, c4319⟩ : ∃ v, I4308 a0 9 = v := ⟨_, rfl⟩
              have b4320 := iv15_9 hS4314.1 ta0 c4319
              obtain ⟨v4321, c4322⟩ : ∃ v, I4308 a0 13 = v := ⟨_, rfl⟩
              obtain ⟨v4323, c4324⟩ : ∃ v, I4308 a0 14 = v := ⟨_, rfl⟩
              (try rw [c4319] at ov4317)
              (try rw [c4322] at ov4317)
              (try rw [c4324] at ov4317)
              (try rw [c4297] at ov4317)
              (try rw [c4298] at ov4317)
              (try rw [c4299] at ov4317)
              refine tr_aload_n dX12_readAlp_63 rfl ?_
              refine tr_getR dX12_readAlp_64 fl12_188 (kR15 hS4314.1 ta0) d2 ?_
              refine tr_getR dX12_readAlp_67 fl12_260 (kR14 hS4314.1 ta1) d4267 ?_
              refine tr_iload_n dX12_readAlp_70 rfl ?_
              refine tr_aload_n dX12_readAlp_71 rfl ?_
              refine q_iconst dX12_readAlp_72 (by decide) ?_
              intro v4325 h4326
              refine q_bipush dX12_readAlp_73 (by decide +kernel) ?_
              intro v4327 h4328
              refine q_callVi hE (M' := mX12_readWhole) (as := [_, _]) dX12_readAlp_75 lk12_161 inX12_readWhole seX12_readWhole myX12_readWhole (by decide) ⟨by decide, by decide⟩ rfl (kR15 hS4314.1 ta0) (Nat.le_of_ble_eq_true rfl) rfl rfl (by decide) (by decide) (k_X12_readWhole hS4314.1 ta0) ?_
              rintro v4333 cn' K' N' I4329 R4330 L4331 ⟨rfl, rfl, rfl, rfl, g4332, p4334, w4335, -⟩
              have hS4336 := hS4314.tr g4332 (by decide +kernel) (by decide +kernel)
              have c4337 : I4329 a1 0 = v29 := (g4332.cell ta1 (by decide +kernel)).trans c4315
              have c4338 : I4329 a1 1 = v33 := (g4332.cell ta1 (by decide +kernel)).trans c4316
              have b4339 : 0 ≤ v4333.toInt ∧ v4333.toInt ≤ 99 := by omega
              clear p4334
              have ov4340 := w4335.over (by rw [c4319]; omega)
              obtain ⟨v4341, c4342⟩ : ∃ v, I4329 a0 9 = v := ⟨_, rfl⟩
              have b4343 := iv15_9 hS4336.1 ta0 c4342
              obtain ⟨v4344, c4345⟩ : ∃ v, I4329 a0 13 = v := ⟨_, rfl⟩
              obtain ⟨v4346, c4347⟩ : ∃ v, I4329 a0 14 = v := ⟨_, rfl⟩
              (try rw [c4342] at ov4340)
              (try rw [c4345] at ov4340)
              (try rw [c4347] at ov4340)
              (try rw [c4319] at ov4340)
              (try rw [c4322] at ov4340)
              (try rw [c4324] at ov4340)
              refine q_iast dX12_readAlp_78 (kR53 hS4336.1 ta4266) (ti_in (nR53 hS4336.1 ta4266) (by omega) (by omega)) hS4336 ta4266 (iokF rfl) rfl (by rfl) ?_
              intro I4348 hS4349 e4351 f4350
              have c4352 : I4348 a1 0 = v29 := (f4350 _ _ (fun q => by have z := ta1; rw [q.1, ta4266] at z; exact absurd z (by decide))).trans c4337
              have c4353 : I4348 a1 1 = v33 := (f4350 _ _ (fun q => by have z := ta1; rw [q.1, ta4266] at z; exact absurd z (by decide))).trans c4338
              have c4354 : I4348 a0 9 = v4341 := (f4350 _ _ (fun q => by have z := ta0; rw [q.1, ta4266] at z; exact absurd z (by decide))).trans c4342
              have c4355 : I4348 a0 13 = v4344 := (f4350 _ _ (fun q => by have z := ta0; rw [q.1, ta4266] at z; exact absurd z (by decide))).trans c4345
              have c4356 : I4348 a0 14 = v4346 := (f4350 _ _ (fun q => by have z := ta0; rw [q.1, ta4266] at z; exact absurd z (by decide))).trans c4347
              refine q_iincE dX12_readAlp_79 rfl (by decide) (by decide) (by intros; omega) ?_
              intro v4357 h4358
              refine tr_goto 48 dX12_readAlp_82 (by decide) ?_
              refine tr_iload_n dX12_readAlp_48 rfl ?_
              refine q_iconst dX12_readAlp_49 (by decide) ?_
              intro v4359 h4360
              refine q_icmp_ge 85 dX12_readAlp_50 (by decide) (fun h4361 => ?_) (fun h4361 => ?_)
              · skip
                exfalso; omega
              · skip
                refine tr_iload_n dX12_readAlp_53 rfl ?_
                refine q_if_le 63 dX12_readAlp_54 (by decide) (fun h4362 => ?_) (fun h4362 => ?_)
                · skip
                  exfalso; omega
                · skip
                  refine tr_aload_n dX12_readAlp_57 rfl ?_
                  refine q_bipush dX12_readAlp_58 (by decide +kernel) ?_
                  intro v4363 h4364
                  refine q_callVv hE (M' := mX12_needsSign) (as := [_]) dX12_readAlp_60 lk12_257 inX12_needsSign seX12_needsSign myX12_needsSign (by decide) ⟨by decide, by decide⟩ rfl (kR15 hS4349.1 ta0) (Nat.le_of_ble_eq_true rfl) rfl rfl (by decide) (by decide) (k_X12_needsSign hS4349.1 ta0) ?_
                  rintro cn' K' N' I4365 R4366 L4367 ⟨rfl, rfl, rfl, rfl, g4368, w4370, -⟩
                  have hS4371 := hS4349.tr g4368 (by decide +kernel) (by decide +kernel)
                  have c4372 : I4365 a1 0 = v29 := (g4368.cell ta1 (by decide +kernel)).trans c4352
                  have c4373 : I4365 a1 1 = v33 := (g4368.cell ta1 (by decide +kernel)).trans c4353
                  have ov4374 := w4370.over (by rw [c4354]; omega)
                  obtain ⟨v4375, c4376⟩ : ∃ v, I4365 a0 9 = v := ⟨_, rfl⟩
                  have b4377 := iv15_9 hS4371.1 ta0 c4376
                  obtain ⟨v4378, c4379⟩ : ∃ v, I4365 a0 13 = v := ⟨_, rfl⟩
                  obtain ⟨v4380, c4381⟩ : ∃ v, I4365 a0 14 = v := ⟨_, rfl⟩
                  (try rw [c4376] at ov4374)
                  (try rw [c4379] at ov4374)
                  (try rw [c4381] at ov4374)
                  (try rw [c4354] at ov4374)
                  (try rw [c4355] at ov4374)
                  (try rw [c4356] at ov4374)
                  refine tr_aload_n dX12_readAlp_63 rfl ?_
                  refine tr_getR dX12_readAlp_64 fl12_188 (kR15 hS4371.1 ta0) d2 ?_
                  refine tr_getR dX12_readAlp_67 fl12_260 (kR14 hS4371.1 ta1) d4267 ?_
                  refine tr_iload_n dX12_readAlp_70 rfl ?_
                  refine tr_aload_n dX12_readAlp_71 rfl ?_
                  refine q_iconst dX12_readAlp_72 (by decide) ?_
                  intro v4382 h4383
                  refine q_bipush dX12_readAlp_73 (by decide +kernel) ?_
                  intro v4384 h4385
                  refine q_callVi hE (M' := mX12_readWhole) (as := [_, _]) dX12_readAlp_75 lk12_161 inX12_readWhole seX12_readWhole myX12_readWhole (by decide) ⟨by decide, by decide⟩ rfl (kR15 hS4371.1 ta0) (Nat.le_of_ble_eq_true rfl) rfl rfl (by decide) (by decide) (k_X12_readWhole hS4371.1 ta0) ?_
                  rintro v4390 cn' K' N' I4386 R4387 L4388 ⟨rfl, rfl, rfl, rfl, g4389, p4391, w4392, -⟩
                  have hS4393 := hS4371.tr g4389 (by decide +kernel) (by decide +kernel)
                  have c4394 : I4386 a1 0 = v29 := (g4389.cell ta1 (by decide +kernel)).trans c4372
                  have c4395 : I4386 a1 1 = v33 := (g4389.cell ta1 (by decide +kernel)).trans c4373
                  have b4396 : 0 ≤ v4390.toInt ∧ v4390.toInt ≤ 99 := by omega
                  clear p4391
                  have ov4397 := w4392.over (by rw [c4376]; omega)
                  obtain ⟨v4398, c4399⟩ : ∃ v, I4386 a0 9 = v := ⟨_, rfl⟩
                  have b4400 := iv15_9 hS4393.1 ta0 c4399
                  obtain ⟨v4401, c4402⟩ : ∃ v, I4386 a0 13 = v := ⟨_, rfl⟩
                  obtain ⟨v4403, c4404⟩ : ∃ v, I4386 a0 14 = v := ⟨_, rfl⟩
                  (try rw [c4399] at ov4397)
                  (try rw [c4402] at ov4397)
                  (try rw [c4404] at ov4397)
                  (try rw [c4376] at ov4397)
                  (try rw [c4379] at ov4397)
                  (try rw [c4381] at ov4397)
                  refine q_iast dX12_readAlp_78 (kR53 hS4393.1 ta4266) (ti_in (nR53 hS4393.1 ta4266) (by omega) (by omega)) hS4393 ta4266 (iokF rfl) rfl (by rfl) ?_
                  intro I4405 hS4406 e4408 f4407
                  have c4409 : I4405 a1 0 = v29 := (f4407 _ _ (fun q => by have z := ta1; rw [q.1, ta4266] at z; exact absurd z (by decide))).trans c4394
                  have c4410 : I4405 a1 1 = v33 := (f4407 _ _ (fun q => by have z := ta1; rw [q.1, ta4266] at z; exact absurd z (by decide))).trans c4395
                  have c4411 : I4405 a0 9 = v4398 := (f4407 _ _ (fun q => by have z := ta0; rw [q.1, ta4266] at z; exact absurd z (by decide))).trans c4399
                  have c4412 : I4405 a0 13 = v4401 := (f4407 _ _ (fun q => by have z := ta0; rw [q.1, ta4266] at z; exact absurd z (by decide))).trans c4402
                  have c4413 : I4405 a0 14 = v4403 := (f4407 _ _ (fun q => by have z := ta0; rw [q.1, ta4266] at z; exact absurd z (by decide))).trans c4404
                  refine q_iincE dX12_readAlp_79 rfl (by decide) (by decide) (by intros; omega) ?_
                  intro v4414 h4415
                  refine tr_goto 48 dX12_readAlp_82 (by decide) ?_
                  refine tr_iload_n dX12_readAlp_48 rfl ?_
                  refine q_iconst dX12_readAlp_49 (by decide) ?_
                  intro v4416 h4417
                  refine q_icmp_ge 85 dX12_readAlp_50 (by decide) (fun h4418 => ?_) (fun h4418 => ?_)
                  · skip
                    exfalso; omega
                  · skip
                    refine tr_iload_n dX12_readAlp_53 rfl ?_
                    refine q_if_le 63 dX12_readAlp_54 (by decide) (fun h4419 => ?_) (fun h4419 => ?_)
                    · skip
                      exfalso; omega
                    · skip
                      refine tr_aload_n dX12_readAlp_57 rfl ?_
                      refine q_bipush dX12_readAlp_58 (by decide +kernel) ?_
                      intro v4420 h4421
                      refine q_callVv hE (M' := mX12_needsSign) (as := [_]) dX12_readAlp_60 lk12_257 inX12_needsSign seX12_needsSign myX12_needsSign (by decide) ⟨by decide, by decide⟩ rfl (kR15 hS4406.1 ta0) (Nat.le_of_ble_eq_true rfl) rfl rfl (by decide) (by decide) (k_X12_needsSign hS4406.1 ta0) ?_
                      rintro cn' K' N' I4422 R4423 L4424 ⟨rfl, rfl, rfl, rfl, g4425, w4427, -⟩
                      have hS4428 := hS4406.tr g4425 (by decide +kernel) (by decide +kernel)
                      have c4429 : I4422 a1 0 = v29 := (g4425.cell ta1 (by decide +kernel)).trans c4409
                      have c4430 : I4422 a1 1 = v33 := (g4425.cell ta1 (by decide +kernel)).trans c4410
                      have ov4431 := w4427.over (by rw [c4411]; omega)
                      obtain ⟨v4432, c4433⟩ : ∃ v, I4422 a0 9 = v := ⟨_, rfl⟩
                      have b4434 := iv15_9 hS4428.1 ta0 c4433
                      obtain ⟨v4435, c4436⟩ : ∃ v, I4422 a0 13 = v := ⟨_, rfl⟩
                      obtain ⟨v4437, c4438⟩ : ∃ v, I4422 a0 14 = v := ⟨_, rfl⟩
                      (try rw [c4433] at ov4431)
                      (try rw [c4436] at ov4431)
                      (try rw [c4438] at ov4431)
                      (try rw [c4411] at ov4431)
                      (try rw [c4412] at ov4431)
                      (try rw [c4413] at ov4431)
                      refine tr_aload_n dX12_readAlp_63 rfl ?_
                      refine tr_getR dX12_readAlp_64 fl12_188 (kR15 hS4428.1 ta0) d2 ?_
                      refine tr_getR dX12_readAlp_67 fl12_260 (kR14 hS4428.1 ta1) d4267 ?_
                      refine tr_iload_n dX12_readAlp_70 rfl ?_
                      refine tr_aload_n dX12_readAlp_71 rfl ?_
                      refine q_iconst dX12_readAlp_72 (by decide) ?_
                      intro v4439 h4440
                      refine q_bipush dX12_readAlp_73 (by decide +kernel) ?_
                      intro v4441 h4442
                      refine q_callVi hE (M' := mX12_readWhole) (as := [_, _]) dX12_readAlp_75 lk12_161 inX12_readWhole seX12_readWhole myX12_readWhole (by decide) ⟨by decide, by decide⟩ rfl (kR15 hS4428.1 ta0) (Nat.le_of_ble_eq_true rfl) rfl rfl (by decide) (by decide) (k_X12_readWhole hS4428.1 ta0) ?_
                      rintro v4447 cn' K' N' I4443 R4444 L4445 ⟨rfl, rfl, rfl, rfl, g4446, p4448, w4449, -⟩
                      have hS4450 := hS4428.tr g4446 (by decide +kernel) (by decide +kernel)
                      have c4451 : I4443 a1 0 = v29 := (g4446.cell ta1 (by decide +kernel)).trans c4429
                      have c4452 : I4443 a1 1 = v33 := (g4446.cell ta1 (by decide +kernel)).trans c4430
                      have b4453 : 0 ≤ v4447.toInt ∧ v4447.toInt ≤ 99 := by omega
                      clear p4448
                      have ov4454 := w4449.over (by rw [c4433]; omega)
                      obtain ⟨v4455, c4456⟩ : ∃ v, I4443 a0 9 = v := ⟨_, rfl⟩
                      have b4457 := iv15_9 hS4450.1 ta0 c4456
                      obtain ⟨v4458, c4459⟩ : ∃ v, I4443 a0 13 = v := ⟨_, rfl⟩
                      obtain ⟨v4460, c4461⟩ : ∃ v, I4443 a0 14 = v := ⟨_, rfl⟩
                      (try rw [c4456] at ov4454)
                      (try rw [c4459] at ov4454)
                      (try rw [c4461] at ov4454)
                      (try rw [c4433] at ov4454)
                      (try rw [c4436] at ov4454)
                      (try rw [c4438] at ov4454)
                      refine q_iast dX12_readAlp_78 (kR53 hS4450.1 ta4266) (ti_in (nR53 hS4450.1 ta4266) (by omega) (by omega)) hS4450 ta4266 (iokF rfl) rfl (by rfl) ?_
                      intro I4462 hS4463 e4465 f4464
                      have c4466 : I4462 a1 0 = v29 := (f4464 _ _ (fun q => by have z := ta1; rw [q.1, ta4266] at z; exact absurd z (by decide))).trans c4451
                      have c4467 : I4462 a1 1 = v33 := (f4464 _ _ (fun q => by have z := ta1; rw [q.1, ta4266] at z; exact absurd z (by decide))).trans c4452
                      have c4468 : I4462 a0 9 = v4455 := (f4464 _ _ (fun q => by have z := ta0; rw [q.1, ta4266] at z; exact absurd z (by decide))).trans c4456
                      have c4469 : I4462 a0 13 = v4458 := (f4464 _ _ (fun q => by have z := ta0; rw [q.1, ta4266] at z; exact absurd z (by decide))).trans c4459
                      have c4470 : I4462 a0 14 = v4460 := (f4464 _ _ (fun q => by have z := ta0; rw [q.1, ta4266] at z; exact absurd z (by decide))).trans c4461
                      refine q_iincE dX12_readAlp_79 rfl (by decide) (by decide) (by intros; omega) ?_
                      intro v4471 h4472
                      refine tr_goto 48 dX12_readAlp_82 (by decide) ?_
                      refine tr_iload_n dX12_readAlp_48 rfl ?_
                      refine q_iconst dX12_readAlp_49 (by decide) ?_
                      intro v4473 h4474
                      refine q_icmp_ge 85 dX12_readAlp_50 (by decide) (fun h4475 => ?_) (fun h4475 => ?_)
                      · skip
                        exfalso; omega
                      · skip
                        refine tr_iload_n dX12_readAlp_53 rfl ?_
                        refine q_if_le 63 dX12_readAlp_54 (by decide) (fun h4476 => ?_) (fun h4476 => ?_)
                        · skip
                          exfalso; omega
                        · skip
                          refine tr_aload_n dX12_readAlp_57 rfl ?_
                          refine q_bipush dX12_readAlp_58 (by decide +kernel) ?_
                          intro v4477 h4478
                          refine q_callVv hE (M' := mX12_needsSign) (as := [_]) dX12_readAlp_60 lk12_257 inX12_needsSign seX12_needsSign myX12_needsSign (by decide) ⟨by decide, by decide⟩ rfl (kR15 hS4463.1 ta0) (Nat.le_of_ble_eq_true rfl) rfl rfl (by decide) (by decide) (k_X12_needsSign hS4463.1 ta0) ?_
                          rintro cn' K' N' I4479 R4480 L4481 ⟨rfl, rfl, rfl, rfl, g4482, w4484, -⟩
                          have hS4485 := hS4463.tr g4482 (by decide +kernel) (by decide +kernel)
                          have c4486 : I4479 a1 0 = v29 := (g4482.cell ta1 (by decide +kernel)).trans c4466
                          have c4487 : I4479 a1 1 = v33 := (g4482.cell ta1 (by decide +kernel)).trans c4467
                          have ov4488 := w4484.over (by rw [c4468]; omega)
                          obtain ⟨v4489, c4490⟩ : ∃ v, I4479 a0 9 = v := ⟨_, rfl⟩
                          have b4491 := iv15_9 hS4485.1 ta0 c4490
                          obtain ⟨v4492, c4493⟩ : ∃ v, I4479 a0 13 = v := ⟨_, rfl⟩
                          obtain ⟨v4494, c4495⟩ : ∃ v, I4479 a0 14 = v := ⟨_, rfl⟩
                          (try rw [c4490] at ov4488)
                          (try rw [c4493] at ov4488)
                          (try rw [c4495] at ov4488)
                          (try rw [c4468] at ov4488)
                          (try rw [c4469] at ov4488)
                          (try rw [c4470] at ov4488)
                          refine tr_aload_n dX12_readAlp_63 rfl ?_
                          refine tr_getR dX12_readAlp_64 fl12_188 (kR15 hS4485.1 ta0) d2 ?_
                          refine tr_getR dX12_readAlp_67 fl12_260 (kR14 hS4485.1 ta1) d4267 ?_
                          refine tr_iload_n dX12_readAlp_70 rfl ?_
                          refine tr_aload_n dX12_readAlp_71 rfl ?_
                          refine q_iconst dX12_readAlp_72 (by decide) ?_
                          intro v4496 h4497
                          refine q_bipush dX12_readAlp_73 (by decide +kernel) ?_
                          intro v4498 h4499
                          refine q_callVi hE (M' := mX12_readWhole) (as := [_, _]) dX12_readAlp_75 lk12_161 inX12_readWhole seX12_readWhole myX12_readWhole (by decide) ⟨by decide, by decide⟩ rfl (kR15 hS4485.1 ta0) (Nat.le_of_ble_eq_true rfl) rfl rfl (by decide) (by decide) (k_X12_readWhole hS4485.1 ta0) ?_
                          rintro v4504 cn' K' N' I4500 R4501 L4502 ⟨rfl, rfl, rfl, rfl, g4503, p4505, w4506, -⟩
                          have hS4507 := hS4485.tr g4503 (by decide +kernel) (by decide +kernel)
                          have c4508 : I4500 a1 0 = v29 := (g4503.cell ta1 (by decide +kernel)).trans c4486
                          have c4509 : I4500 a1 1 = v33 := (g4503.cell ta1 (by decide +kernel)).trans c4487
                          have b4510 : 0 ≤ v4504.toInt ∧ v4504.toInt ≤ 99 := by omega
                          clear p4505
                          have ov4511 := w4506.over (by rw [c4490]; omega)
                          obtain ⟨v4512, c4513⟩ : ∃ v, I4500 a0 9 = v := ⟨_, rfl⟩
                          have b4514 := iv15_9 hS4507.1 ta0 c4513
                          obtain ⟨v4515, c4516⟩ : ∃ v, I4500 a0 13 = v := ⟨_, rfl⟩
                          obtain ⟨v4517, c4518⟩ : ∃ v, I4500 a0 14 = v := ⟨_, rfl⟩
                          (try rw [c4513] at ov4511)
                          (try rw [c4516] at ov4511)
                          (try rw [c4518] at ov4511)
                          (try rw [c4490] at ov4511)
                          (try rw [c4493] at ov4511)
                          (try rw [c4495] at ov4511)
                          refine q_iast dX12_readAlp_78 (kR53 hS4507.1 ta4266) (ti_in (nR53 hS4507.1 ta4266) (by omega) (by omega)) hS4507 ta4266 (iokF rfl) rfl (by rfl) ?_
                          intro I4519 hS4520 e4522 f4521
                          have c4523 : I4519 a1 0 = v29 := (f4521 _ _ (fun q => by have z := ta1; rw [q.1, ta4266] at z; exact absurd z (by decide))).trans c4508
                          have c4524 : I4519 a1 1 = v33 := (f4521 _ _ (fun q => by have z := ta1; rw [q.1, ta4266] at z; exact absurd z (by decide))).trans c4509
                          have c4525 : I4519 a0 9 = v4512 := (f4521 _ _ (fun q => by have z := ta0; rw [q.1, ta4266] at z; exact absurd z (by decide))).trans c4513
                          have c4526 : I4519 a0 13 = v4515 := (f4521 _ _ (fun q => by have z := ta0; rw [q.1, ta4266] at z; exact absurd z (by decide))).trans c4516
                          have c4527 : I4519 a0 14 = v4517 := (f4521 _ _ (fun q => by have z := ta0; rw [q.1, ta4266] at z; exact absurd z (by decide))).trans c4518
                          refine q_iincE dX12_readAlp_79 rfl (by decide) (by decide) (by intros; omega) ?_
                          intro v4528 h4529
                          refine tr_goto 48 dX12_readAlp_82 (by decide) ?_
                          refine tr_iload_n dX12_readAlp_48 rfl ?_
                          refine q_iconst dX12_readAlp_49 (by decide) ?_
                          intro v4530 h4531
                          refine q_icmp_ge 85 dX12_readAlp_50 (by decide) (fun h4532 => ?_) (fun h4532 => ?_)
                          · skip
                            refine tr_aload_n dX12_readAlp_85 rfl ?_
                            refine q_getI dX12_readAlp_86 fl12_99 (kR15 hS4520.1 ta0) c4525 ?_
                            refine q_iconst dX12_readAlp_89 (by decide) ?_
                            intro v4533 h4534
                            refine q_icmp_ne 94 dX12_readAlp_90 (by decide) (fun h4535 => ?_) (fun h4535 => ?_)
                            · skip
                              exfalso; omega
                            · skip
                              have eF := hF.eq
                              have eP := hP.eq
                              obtain ⟨v4536, c4537⟩ : ∃ v, I4519 a0 10 = v := ⟨_, rfl⟩
                              have b4538 := iv15_10 hS4520.1 ta0 c4537
                              obtain ⟨v4539, c4540⟩ : ∃ v, I4519 a0 11 = v := ⟨_, rfl⟩
                              obtain ⟨y4541, c4542⟩ : ∃ v, L4502 a0 15 = v := ⟨_, rfl⟩
                              obtain ⟨v4543, c4544⟩ : ∃ v, I4519 a0 12 = v := ⟨_, rfl⟩
                              obtain ⟨v4545, c4546⟩ : ∃ v, I4519 a0 8 = v := ⟨_, rfl⟩
                              have b4547 := iv15_8 hS4520.1 ta0 c4546
                              exact tr_vret hZ dX12_readAlp_93 rfl (by decide) (by decide) ⟨rfl, rfl, rfl, rfl, rfl, hS4520, (Or.inr (⟨(by (try rw [w106]); first | done | omega), (by (try rw [w106]); (try rw [c4525]); first | done | omega), (by (try rw [w106]); (try rw [c4526]); first | done | omega), (by (try rw [w106]); (try rw [c4527]); first | done | omega), trivial⟩)), trivial⟩
                          · skip
                            exfalso; omega
        · skip
          exfalso; omega
    · skip
      obtain ⟨v4548, c4549⟩ : ∃ v, I120 a0 9 = v := ⟨_, rfl⟩
      have b4550 := iv15_9 hS128.1 ta0 c4549
      rw [c4549] at p155
      obtain ⟨v4551, c4552⟩ : ∃ v, I120 a0 13 = v := ⟨_, rfl⟩
      rw [c4552] at p156
      obtain ⟨v4553, c4554⟩ : ∃ v, I120 a0 14 = v := ⟨_, rfl⟩
      rw [c4554] at p157
      replace hF := hF.neg (by omega)
      replace hP := hP.neg (by omega)
      replace hF := hF.pos (by omega)
      replace hP := hP.pos (by omega)
      refine tr_istore_n dX12_readAlp_30 (by decide) (by decide) ?_
      refine tr_aload_n dX12_readAlp_31 rfl ?_
      refine tr_ldcS dX12_readAlp_32 ld12_253 ?_
      refine q_iconst dX12_readAlp_34 (by decide) ?_
      intro v4555 h4556
      refine q_iconst dX12_readAlp_35 (by decide) ?_
      intro v4557 h4558
      refine q_callVi hE (M' := mX12_readPart) (as := [_, _, _]) dX12_readAlp_36 lk12_249 inX12_readPart seX12_readPart myX12_readPart (by decide) ⟨by decide, by decide⟩ rfl (kR15 hS128.1 ta0) (Nat.le_of_ble_eq_true rfl) rfl rfl (by decide) (by decide) (k_X12_readPart hS128.1 ta0 (by decide)) ?_
      rintro v4563 cn' K' N' I4559 R4560 L4561 ⟨rfl, rfl, rfl, rfl, g4562, p4564, w4565, -⟩
      have hS4566 := hS128.tr g4562 (by decide +kernel) (by decide +kernel)
      have c4567 : I4559 a1 0 = v29 := (g4562.cell ta1 (by decide +kernel)).trans c129
      have c4568 : I4559 a1 1 = v33 := (g4562.cell ta1 (by decide +kernel)).trans c130
      have b4569 : 1 ≤ v4563.toInt ∧ v4563.toInt ≤ 4 := by omega
      clear p4564
      have ov4570 := w4565.over (by rw [c4549]; omega)
      obtain ⟨v4571, c4572⟩ : ∃ v, I4559 a0 9 = v := ⟨_, rfl⟩
      have b4573 := iv15_9 hS4566.1 ta0 c4572
      obtain ⟨v4574, c4575⟩ : ∃ v, I4559 a0 13 = v := ⟨_, rfl⟩
      obtain ⟨v4576, c4577⟩ : ∃ v, I4559 a0 14 = v := ⟨_, rfl⟩
      (try rw [c4572] at ov4570)
      (try rw [c4575] at ov4570)
      (try rw [c4577] at ov4570)
      (try rw [c4549] at ov4570)
      (try rw [c4552] at ov4570)
      (try rw [c4554] at ov4570)
      refine tr_istore_n dX12_readAlp_39 (by decide) (by decide) ?_
      refine tr_aload_n dX12_readAlp_40 rfl ?_
      refine tr_ldcS dX12_readAlp_41 ld12_255 ?_
      refine q_callVv hE (M' := mX12_needs) (as := [_]) dX12_readAlp_43 lk12_157 inX12_needs seX12_needs myX12_needs (by decide) ⟨by decide, by decide⟩ rfl (kR15 hS4566.1 ta0) (Nat.le_of_ble_eq_true rfl) rfl rfl (by decide) (by decide) (k_X12_needs hS4566.1 ta0 (by decide)) ?_
      rintro cn' K' N' I4578 R4579 L4580 ⟨rfl, rfl, rfl, rfl, g4581, w4583, -⟩
      have hS4584 := hS4566.tr g4581 (by decide +kernel) (by decide +kernel)
      have c4585 : I4578 a1 0 = v29 := (g4581.cell ta1 (by decide +kernel)).trans c4567
      have c4586 : I4578 a1 1 = v33 := (g4581.cell ta1 (by decide +kernel)).trans c4568
      have ov4587 := w4583.over (by rw [c4572]; omega)
      obtain ⟨v4588, c4589⟩ : ∃ v, I4578 a0 9 = v := ⟨_, rfl⟩
      have b4590 := iv15_9 hS4584.1 ta0 c4589
      obtain ⟨v4591, c4592⟩ : ∃ v, I4578 a0 13 = v := ⟨_, rfl⟩
      obtain ⟨v4593, c4594⟩ : ∃ v, I4578 a0 14 = v := ⟨_, rfl⟩
      (try rw [c4589] at ov4587)
      (try rw [c4592] at ov4587)
      (try rw [c4594] at ov4587)
      (try rw [c4572] at ov4587)
      (try rw [c4575] at ov4587)
      (try rw [c4577] at ov4587)
      refine q_iconst dX12_readAlp_46 (by decide) ?_
      intro v4595 h4596
      refine tr_istore_n dX12_readAlp_47 (by decide) (by decide) ?_
      refine tr_iload_n dX12_readAlp_48 rfl ?_
      refine q_iconst dX12_readAlp_49 (by decide) ?_
      intro v4597 h4598
      refine q_icmp_ge 85 dX12_readAlp_50 (by decide) (fun h4599 => ?_) (fun h4599 => ?_)
      · skip
        exfalso; omega
      · skip
        refine tr_iload_n dX12_readAlp_53 rfl ?_
        refine q_if_le 63 dX12_readAlp_54 (by decide) (fun h4600 => ?_) (fun h4600 => ?_)
        · skip
          refine tr_aload_n dX12_readAlp_63 rfl ?_
          refine tr_getR dX12_readAlp_64 fl12_188 (kR15 hS4584.1 ta0) d2 ?_
          obtain ⟨a4601, d4602, ta4601⟩ := rf14_10 hW0 ta1
          refine tr_getR dX12_readAlp_67 fl12_260 (kR14 hS4584.1 ta1) d4602 ?_
          refine tr_iload_n dX12_readAlp_70 rfl ?_
          refine tr_aload_n dX12_readAlp_71 rfl ?_
          refine q_iconst dX12_readAlp_72 (by decide) ?_
          intro v4603 h4604
          refine q_bipush dX12_readAlp_73 (by decide +kernel) ?_
          intro v4605 h4606
          refine q_callVi hE (M' := mX12_readWhole) (as := [_, _]) dX12_readAlp_75 lk12_161 inX12_readWhole seX12_readWhole myX12_readWhole (by decide) ⟨by decide, by decide⟩ rfl (kR15 hS4584.1 ta0) (Nat.le_of_ble_eq_true rfl) rfl rfl (by decide) (by decide) (k_X12_readWhole hS4584.1 ta0) ?_
          rintro v4611 cn' K' N' I4607 R4608 L4609 ⟨rfl, rfl, rfl, rfl, g4610, p4612, w4613, -⟩
          have hS4614 := hS4584.tr g4610 (by decide +kernel) (by decide +kernel)
          have c4615 : I4607 a1 0 = v29 := (g4610.cell ta1 (by decide +kernel)).trans c4585
          have c4616 : I4607 a1 1 = v33 := (g4610.cell ta1 (by decide +kernel)).trans c4586
          have b4617 : 0 ≤ v4611.toInt ∧ v4611.toInt ≤ 99 := by omega
          clear p4612
          have ov4618 := w4613.over (by rw [c4589]; omega)
          obtain ⟨v4619, c4620⟩ : ∃ v, I4607 a0 9 = v := ⟨_, rfl⟩
          have b4621 := iv15_9 hS4614.1 ta0 c4620
          obtain ⟨v4622, c4623⟩ : ∃ v, I4607 a0 13 = v := ⟨_, rfl⟩
          obtain ⟨v4624, c4625⟩ : ∃ v, I4607 a0 14 = v := ⟨_, rfl⟩
          (try rw [c4620] at ov4618)
          (try rw [c4623] at ov4618)
          (try rw [c4625] at ov4618)
          (try rw [c4589] at ov4618)
          (try rw [c4592] at ov4618)
          (try rw [c4594] at ov4618)
          refine q_iast dX12_readAlp_78 (kR53 hS4614.1 ta4601) (ti_in (nR53 hS4614.1 ta4601) (by omega) (by omega)) hS4614 ta4601 (iokF rfl) rfl (by rfl) ?_
          intro I4626 hS4627 e4629 f4628
          have c4630 : I4626 a1 0 = v29 := (f4628 _ _ (fun q => by have z := ta1; rw [q.1, ta4601] at z; exact absurd z (by decide))).trans c4615
          have c4631 : I4626 a1 1 = v33 := (f4628 _ _ (fun q => by have z := ta1; rw [q.1, ta4601] at z; exact absurd z (by decide))).trans c4616
          have c4632 : I4626 a0 9 = v4619 := (f4628 _ _ (fun q => by have z := ta0; rw [q.1, ta4601] at z; exact absurd z (by decide))).trans c4620
          have c4633 : I4626 a0 13 = v4622 := (f4628 _ _ (fun q => by have z := ta0; rw [q.1, ta4601] at z; exact absurd z (by decide))).trans c4623
          have c4634 : I4626 a0 14 = v4624 := (f4628 _ _ (fun q => by have z := ta0; rw [q.1, ta4601] at z; exact absurd z (by decide))).trans c4625
          refine q_iincE dX12_readAlp_79 rfl (by decide) (by decide) (by intros; omega) ?_
          intro v4635 h4636
          refine tr_goto 48 dX12_readAlp_82 (by decide) ?_
          refine tr_iload_n dX12_readAlp_48 rfl ?_
          refine q_iconst dX12_readAlp_49 (by decide) ?_
          intro v4637 h4638
          refine q_icmp_ge 85 dX12_readAlp_50 (by decide) (fun h4639 => ?_) (fun h4639 => ?_)
          · skip
            exfalso; omega
          · skip
            refine tr_iload_n dX12_readAlp_53 rfl ?_
            refine q_if_le 63 dX12_readAlp_54 (by decide) (fun h4640 => ?_) (fun h4640 => ?_)
            · skip
              exfalso; omega
            · skip
              refine tr_aload_n dX12_readAlp_57 rfl ?_
              refine q_bipush dX12_readAlp_58 (by decide +kernel) ?_
              intro v4641 h4642
              refine q_callVv hE (M' := mX12_needsSign) (as := [_]) dX12_readAlp_60 lk12_257 inX12_needsSign seX12_needsSign myX12_needsSign (by decide) ⟨by decide, by decide⟩ rfl (kR15 hS4627.1 ta0) (Nat.le_of_ble_eq_true rfl) rfl rfl (by decide) (by decide) (k_X12_needsSign hS4627.1 ta0) ?_
              rintro cn' K' N' I4643 R4644 L4645 ⟨rfl, rfl, rfl, rfl, g4646, w4648, -⟩
              have hS4649 := hS4627.tr g4646 (by decide +kernel) (by decide +kernel)
              have c4650 : I4643 a1 0 = v29 := (g4646.cell ta1 (by decide +kernel)).trans c4630
              have c4651 : I4643 a1 1 = v33 := (g4646.cell ta1 (by decide +kernel)).trans c4631
              have ov4652 := w4648.over (by rw [c4632]; omega)
              obtain ⟨v4653, c4654⟩ : ∃ v, I4643 a0 9 = v := ⟨_, rfl⟩
              have b4655 := iv15_9 hS4649.1 ta0 c4654
              obtain ⟨v4656, c4657⟩ : ∃ v, I4643 a0 13 = v := ⟨_, rfl⟩
              obtain ⟨v4658, c4659⟩ : ∃ v, I4643 a0 14 = v := ⟨_, rfl⟩
              (try rw [c4654] at ov4652)
              (try rw [c4657] at ov4652)
              (try rw [c4659] at ov4652)
              (try rw [c4632] at ov4652)
              (try rw [c4633] at ov4652)
              (try rw [c4634] at ov4652)
              refine tr_aload_n dX12_readAlp_63 rfl ?_
              refine tr_getR dX12_readAlp_64 fl12_188 (kR15 hS4649.1 ta0) d2 ?_
              refine tr_getR dX12_readAlp_67 fl12_260 (kR14 hS4649.1 ta1) d4602 ?_
              refine tr_iload_n dX12_readAlp_70 rfl ?_
              refine tr_aload_n dX12_readAlp_71 rfl ?_
              refine q_iconst dX12_readAlp_72 (by decide) ?_
              intro v4660 h4661
              refine q_bipush dX12_readAlp_73 (by decide +kernel) ?_
              intro v4662 h4663
              refine q_callVi hE (M' := mX12_readWhole) (as := [_, _]) dX12_readAlp_75 lk12_161 inX12_readWhole seX12_readWhole myX12_readWhole (by decide) ⟨by decide, by decide⟩ rfl (kR15 hS4649.1 ta0) (Nat.le_of_ble_eq_true rfl) rfl rfl (by decide) (by decide) (k_X12_readWhole hS4649.1 ta0) ?_
              rintro v4668 cn' K' N' I4664 R4665 L4666 ⟨rfl, rfl, rfl, rfl, g4667, p4669, w4670, -⟩
              have hS4671 := hS4649.tr g4667 (by decide +kernel) (by decide +kernel)
              have c4672 : I4664 a1 0 = v29 := (g4667.cell ta1 (by decide +kernel)).trans c4650
              have c4673 : I4664 a1 1 = v33 := (g4667.cell ta1 (by decide +kernel)).trans c4651
              have b4674 : 0 ≤ v4668.toInt ∧ v4668.toInt ≤ 99 := by omega
              clear p4669
              have ov4675 := w4670.over (by rw [c4654]; omega)
              obtain ⟨v4676, c4677⟩ : ∃ v, I4664 a0 9 = v := ⟨_, rfl⟩
              have b4678 := iv15_9 hS4671.1 ta0 c4677
              obtain ⟨v4679, c4680⟩ : ∃ v, I4664 a0 13 = v := ⟨_, rfl⟩
              obtain ⟨v4681, c4682⟩ : ∃ v, I4664 a0 14 = v := ⟨_, rfl⟩
              (try rw [c4677] at ov4675)
              (try rw [c4680] at ov4675)
              (try rw [c4682] at ov4675)
              (try rw [c4654] at ov4675)
              (try rw [c4657] at ov4675)
              (try rw [c4659] at ov4675)
              refine q_iast dX12_readAlp_78 (kR53 hS4671.1 ta4601) (ti_in (nR53 hS4671.1 ta4601) (by omega) (by omega)) hS4671 ta4601 (iokF rfl) rfl (by rfl) ?_
              intro I4683 hS4684 e4686 f4685
              have c4687 : I4683 a1 0 = v29 := (f4685 _ _ (fun q => by have z := ta1; rw [q.1, ta4601] at z; exact absurd z (by decide))).trans c4672
              have c4688 : I4683 a1 1 = v33 := (f4685 _ _ (fun q => by have z := ta1; rw [q.1, ta4601] at z; exact absurd z (by decide))).trans c4673
              have c4689 : I4683 a0 9 = v4676 := (f4685 _ _ (fun q => by have z := ta0; rw [q.1, ta4601] at z; exact absurd z (by decide))).trans c4677
              have c4690 : I4683 a0 13 = v4679 := (f4685 _ _ (fun q => by have z := ta0; rw [q.1, ta4601] at z; exact absurd z (by decide))).trans c4680
              have c4691 : I4683 a0 14 = v4681 := (f4685 _ _ (fun q => by have z := ta0; rw [q.1, ta4601] at z; exact absurd z (by decide))).trans c4682
              refine q_iincE dX12_readAlp_79 rfl (by decide) (by decide) (by intros; omega) ?_
              intro v4692 h4693
              refine tr_goto 48 dX12_readAlp_82 (by decide) ?_
              refine tr_iload_n dX12_readAlp_48 rfl ?_
              refine q_iconst dX12_readAlp_49 (by decide) ?_
              intro v4694 h4695
              refine q_icmp_ge 85 dX12_readAlp_50 (by decide) (fun h4696 => ?_) (fun h4696 => ?_)
              · skip
                exfalso; omega
              · skip
                refine tr_iload_n dX12_readAlp_53 rfl ?_
                refine q_if_le 63 dX12_readAlp_54 (by decide) (fun h4697 => ?_) (fun h4697 => ?_)
                · skip
                  exfalso; omega
                · skip
                  refine tr_aload_n dX12_readAlp_57 rfl ?_
                  refine q_bipush dX12_readAlp_58 (by decide +kernel) ?_
                  intro v4698 h4699
                  refine q_callVv hE (M' := mX12_needsSign) (as := [_]) dX12_readAlp_60 lk12_257 inX12_needsSign seX12_needsSign myX12_needsSign (by decide) ⟨by decide, by decide⟩ rfl (kR15 hS4684.1 ta0) (Nat.le_of_ble_eq_true rfl) rfl rfl (by decide) (by decide) (k_X12_needsSign hS4684.1 ta0) ?_
                  rintro cn' K' N' I4700 R4701 L4702 ⟨rfl, rfl, rfl, rfl, g4703, w4705, -⟩
                  have hS4706 := hS4684.tr g4703 (by decide +kernel) (by decide +kernel)
                  have c4707 : I4700 a1 0 = v29 := (g4703.cell ta1 (by decide +kernel)).trans c4687
                  have c4708 : I4700 a1 1 = v33 := (g4703.cell ta1 (by decide +kernel)).trans c4688
                  have ov4709 := w4705.over (by rw [c4689]; omega)
                  obtain ⟨v4710, c4711⟩ : ∃ v, I4700 a0 9 = v := ⟨_, rfl⟩
                  have b4712 := iv15_9 hS4706.1 ta0 c4711
                  obtain ⟨v4713, c4714⟩ : ∃ v, I4700 a0 13 = v := ⟨_, rfl⟩
                  obtain ⟨v4715, c4716⟩ : ∃ v, I4700 a0 14 = v := ⟨_, rfl⟩
                  (try rw [c4711] at ov4709)
                  (try rw [c4714] at ov4709)
                  (try rw [c4716] at ov4709)
                  (try rw [c4689] at ov4709)
                  (try rw [c4690] at ov4709)
                  (try rw [c4691] at ov4709)
                  refine tr_aload_n dX12_readAlp_63 rfl ?_
                  refine tr_getR dX12_readAlp_64 fl12_188 (kR15 hS4706.1 ta0) d2 ?_
                  refine tr_getR dX12_readAlp_67 fl12_260 (kR14 hS4706.1 ta1) d4602 ?_
                  refine tr_iload_n dX12_readAlp_70 rfl ?_
                  refine tr_aload_n dX12_readAlp_71 rfl ?_
                  refine q_iconst dX12_readAlp_72 (by decide) ?_
                  intro v4717 h4718
                  refine q_bipush dX12_readAlp_73 (by decide +kernel) ?_
                  intro v4719 h4720
                  refine q_callVi hE (M' := mX12_readWhole) (as := [_, _]) dX12_readAlp_75 lk12_161 inX12_readWhole seX12_readWhole myX12_readWhole (by decide) ⟨by decide, by decide⟩ rfl (kR15 hS4706.1 ta0) (Nat.le_of_ble_eq_true rfl) rfl rfl (by decide) (by decide) (k_X12_readWhole hS4706.1 ta0) ?_
                  rintro v4725 cn' K' N' I4721 R4722 L4723 ⟨rfl, rfl, rfl, rfl, g4724, p4726, w4727, -⟩
                  have hS4728 := hS4706.tr g4724 (by decide +kernel) (by decide +kernel)
                  have c4729 : I4721 a1 0 = v29 := (g4724.cell ta1 (by decide +kernel)).trans c4707
                  have c4730 : I4721 a1 1 = v33 := (g4724.cell ta1 (by decide +kernel)).trans c4708
                  have b4731 : 0 ≤ v4725.toInt ∧ v4725.toInt ≤ 99 := by omega
                  clear p4726
                  have ov4732 := w4727.over (by rw [c4711]; omega)
                  obtain ⟨v4733, c4734⟩ : ∃ v, I4721 a0 9 = v := ⟨_, rfl⟩
                  have b4735 := iv15_9 hS4728.1 ta0 c4734
                  obtain ⟨v4736, c4737⟩ : ∃ v, I4721 a0 13 = v := ⟨_, rfl⟩
                  obtain ⟨v4738, c4739⟩ : ∃ v, I4721 a0 14 = v := ⟨_, rfl⟩
                  (try rw [c4734] at ov4732)
                  (try rw [c4737] at ov4732)
                  (try rw [c4739] at ov4732)
                  (try rw [c4711] at ov4732)
                  (try rw [c4714] at ov4732)
                  (try rw [c4716] at ov4732)
                  refine q_iast dX12_readAlp_78 (kR53 hS4728.1 ta4601) (ti_in (nR53 hS4728.1 ta4601) (by omega) (by omega)) hS4728 ta4601 (iokF rfl) rfl (by rfl) ?_
                  intro I4740 hS4741 e4743 f4742
                  have c4744 : I4740 a1 0 = v29 := (f4742 _ _ (fun q => by have z := ta1; rw [q.1, ta4601] at z; exact absurd z (by decide))).trans c4729
                  have c4745 : I4740 a1 1 = v33 := (f4742 _ _ (fun q => by have z := ta1; rw [q.1, ta4601] at z; exact absurd z (by decide))).trans c4730
                  have c4746 : I4740 a0 9 = v4733 := (f4742 _ _ (fun q => by have z := ta0; rw [q.1, ta4601] at z; exact absurd z (by decide))).trans c4734
                  have c4747 : I4740 a0 13 = v4736 := (f4742 _ _ (fun q => by have z := ta0; rw [q.1, ta4601] at z; exact absurd z (by decide))).trans c4737
                  have c4748 : I4740 a0 14 = v4738 := (f4742 _ _ (fun q => by have z := ta0; rw [q.1, ta4601] at z; exact absurd z (by decide))).trans c4739
                  refine q_iincE dX12_readAlp_79 rfl (by decide) (by decide) (by intros; omega) ?_
                  intro v4749 h4750
                  refine tr_goto 48 dX12_readAlp_82 (by decide) ?_
                  refine tr_iload_n dX12_readAlp_48 rfl ?_
                  refine q_iconst dX12_readAlp_49 (by decide) ?_
                  intro v4751 h4752
                  refine q_icmp_ge 85 dX12_readAlp_50 (by decide) (fun h4753 => ?_) (fun h4753 => ?_)
                  · skip
                    exfalso; omega
                  · skip
                    refine tr_iload_n dX12_readAlp_53 rfl ?_
                    refine q_if_le 63 dX12_readAlp_54 (by decide) (fun h4754 => ?_) (fun h4754 => ?_)
                    · skip
                      exfalso; omega
                    · skip
                      refine tr_aload_n dX12_readAlp_57 rfl ?_
                      refine q_bipush dX12_readAlp_58 (by decide +kernel) ?_
                      intro v4755 h4756
                      refine q_callVv hE (M' := mX12_needsSign) (as := [_]) dX12_readAlp_60 lk12_257 inX12_needsSign seX12_needsSign myX12_needsSign (by decide) ⟨by decide, by decide⟩ rfl (kR15 hS4741.1 ta0) (Nat.le_of_ble_eq_true rfl) rfl rfl (by decide) (by decide) (k_X12_needsSign hS4741.1 ta0) ?_
                      rintro cn' K' N' I4757 R4758 L4759 ⟨rfl, rfl, rfl, rfl, g4760, w4762, -⟩
                      have hS4763 := hS4741.tr g4760 (by decide +kernel) (by decide +kernel)
                      have c4764 : I4757 a1 0 = v29 := (g4760.cell ta1 (by decide +kernel)).trans c4744
                      have c4765 : I4757 a1 1 = v33 := (g4760.cell ta1 (by decide +kernel)).trans c4745
                      have ov4766 := w4762.over (by rw [c4746]; omega)
                      obtain ⟨v4767, c4768⟩ : ∃ v, I4757 a0 9 = v := ⟨_, rfl⟩
                      have b4769 := iv15_9 hS4763.1 ta0 c4768
                      obtain ⟨v4770, c4771⟩ : ∃ v, I4757 a0 13 = v := ⟨_, rfl⟩
                      obtain ⟨v4772, c4773⟩ : ∃ v, I4757 a0 14 = v := ⟨_, rfl⟩
                      (try rw [c4768] at ov4766)
                      (try rw [c4771] at ov4766)
                      (try rw [c4773] at ov4766)
                      (try rw [c4746] at ov4766)
                      (try rw [c4747] at ov4766)
                      (try rw [c4748] at ov4766)
                      refine tr_aload_n dX12_readAlp_63 rfl ?_
                      refine tr_getR dX12_readAlp_64 fl12_188 (kR15 hS4763.1 ta0) d2 ?_
                      refine tr_getR dX12_readAlp_67 fl12_260 (kR14 hS4763.1 ta1) d4602 ?_
                      refine tr_iload_n dX12_readAlp_70 rfl ?_
                      refine tr_aload_n dX12_readAlp_71 rfl ?_
                      refine q_iconst dX12_readAlp_72 (by decide) ?_
                      intro v4774 h4775
                      refine q_bipush dX12_readAlp_73 (by decide +kernel) ?_
                      intro v4776 h4777
                      refine q_callVi hE (M' := mX12_readWhole) (as := [_, _]) dX12_readAlp_75 lk12_161 inX12_readWhole seX12_readWhole myX12_readWhole (by decide) ⟨by decide, by decide⟩ rfl (kR15 hS4763.1 ta0) (Nat.le_of_ble_eq_true rfl) rfl rfl (by decide) (by decide) (k_X12_readWhole hS4763.1 ta0) ?_
                      rintro v4782 cn' K' N' I4778 R4779 L4780 ⟨rfl, rfl, rfl, rfl, g4781, p4783, w4784, -⟩
                      have hS4785 := hS4763.tr g4781 (by decide +kernel) (by decide +kernel)
                      have c4786 : I4778 a1 0 = v29 := (g4781.cell ta1 (by decide +kernel)).trans c4764
                      have c4787 : I4778 a1 1 = v33 := (g4781.cell ta1 (by decide +kernel)).trans c4765
                      have b4788 : 0 ≤ v4782.toInt ∧ v4782.toInt ≤ 99 := by omega
                      clear p4783
                      have ov4789 := w4784.over (by rw [c4768]; omega)
                      obtain ⟨v4790, c4791⟩ : ∃ v, I4778 a0 9 = v := ⟨_, rfl⟩
                      have b4792 := iv15_9 hS4785.1 ta0 c4791
                      obtain ⟨v4793, c4794⟩ : ∃ v, I4778 a0 13 = v := ⟨_, rfl⟩
                      obtain ⟨v4795, c4796⟩ : ∃ v, I4778 a0 14 = v := ⟨_, rfl⟩
                      (try rw [c4791] at ov4789)
                      (try rw [c4794] at ov4789)
                      (try rw [c4796] at ov4789)
                      (try rw [c4768] at ov4789)
                      (try rw [c4771] at ov4789)
                      (try rw [c4773] at ov4789)
                      refine q_iast dX12_readAlp_78 (kR53 hS4785.1 ta4601) (ti_in (nR53 hS4785.1 ta4601) (by omega) (by omega)) hS4785 ta4601 (iokF rfl) rfl (by rfl) ?_
                      intro I4797 hS4798 e4800 f4799
                      have c4801 : I4797 a1 0 = v29 := (f4799 _ _ (fun q => by have z := ta1; rw [q.1, ta4601] at z; exact absurd z (by decide))).trans c4786
                      have c4802 : I4797 a1 1 = v33 := (f4799 _ _ (fun q => by have z := ta1; rw [q.1, ta4601] at z; exact absurd z (by decide))).trans c4787
                      have c4803 : I4797 a0 9 = v4790 := (f4799 _ _ (fun q => by have z := ta0; rw [q.1, ta4601] at z; exact absurd z (by decide))).trans c4791
                      have c4804 : I4797 a0 13 = v4793 := (f4799 _ _ (fun q => by have z := ta0; rw [q.1, ta4601] at z; exact absurd z (by decide))).trans c4794
                      have c4805 : I4797 a0 14 = v4795 := (f4799 _ _ (fun q => by have z := ta0; rw [q.1, ta4601] at z; exact absurd z (by decide))).trans c4796
                      refine q_iincE dX12_readAlp_79 rfl (by decide) (by decide) (by intros; omega) ?_
                      intro v4806 h4807
                      refine tr_goto 48 dX12_readAlp_82 (by decide) ?_
                      refine tr_iload_n dX12_readAlp_48 rfl ?_
                      refine q_iconst dX12_readAlp_49 (by decide) ?_
                      intro v4808 h4809
                      refine q_icmp_ge 85 dX12_readAlp_50 (by decide) (fun h4810 => ?_) (fun h4810 => ?_)
                      · skip
                        exfalso; omega
                      · skip
                        refine tr_iload_n dX12_readAlp_53 rfl ?_
                        refine q_if_le 63 dX12_readAlp_54 (by decide) (fun h4811 => ?_) (fun h4811 => ?_)
                        · skip
                          exfalso; omega
                        · skip
                          refine tr_aload_n dX12_readAlp_57 rfl ?_
                          refine q_bipush dX12_readAlp_58 (by decide +kernel) ?_
                          intro v4812 h4813
                          refine q_callVv hE (M' := mX12_needsSign) (as := [_]) dX12_readAlp_60 lk12_257 inX12_needsSign seX12_needsSign myX12_needsSign (by decide) ⟨by decide, by decide⟩ rfl (kR15 hS4798.1 ta0) (Nat.le_of_ble_eq_true rfl) rfl rfl (by decide) (by decide) (k_X12_needsSign hS4798.1 ta0) ?_
                          rintro cn' K' N' I4814 R4815 L4816 ⟨rfl, rfl, rfl, rfl, g4817, w4819, -⟩
                          have hS4820 := hS4798.tr g4817 (by decide +kernel) (by decide +kernel)
                          have c4821 : I4814 a1 0 = v29 := (g4817.cell ta1 (by decide +kernel)).trans c4801
                          have c4822 : I4814 a1 1 = v33 := (g4817.cell ta1 (by decide +kernel)).trans c4802
                          have ov4823 := w4819.over (by rw [c4803]; omega)
                          obtain ⟨v4824, c4825⟩ : ∃ v, I4814 a0 9 = v := ⟨_, rfl⟩
                          have b4826 := iv15_9 hS4820.1 ta0 c4825
                          obtain ⟨v4827, c4828⟩ : ∃ v, I4814 a0 13 = v := ⟨_, rfl⟩
                          obtain ⟨v4829, c4830⟩ : ∃ v, I4814 a0 14 = v := ⟨_, rfl⟩
                          (try rw [c4825] at ov4823)
                          (try rw [c4828] at ov4823)
                          (try rw [c4830] at ov4823)
                          (try rw [c4803] at ov4823)
                          (try rw [c4804] at ov4823)
                          (try rw [c4805] at ov4823)
                          refine tr_aload_n dX12_readAlp_63 rfl ?_
                          refine tr_getR dX12_readAlp_64 fl12_188 (kR15 hS4820.1 ta0) d2 ?_
                          refine tr_getR dX12_readAlp_67 fl12_260 (kR14 hS4820.1 ta1) d4602 ?_
                          refine tr_iload_n dX12_readAlp_70 rfl ?_
                          refine tr_aload_n dX12_readAlp_71 rfl ?_
                          refine q_iconst dX12_readAlp_72 (by decide) ?_
                          intro v4831 h4832
                          refine q_bipush dX12_readAlp_73 (by decide +kernel) ?_
                          intro v4833 h4834
                          refine q_callVi hE (M' := mX12_readWhole) (as := [_, _]) dX12_readAlp_75 lk12_161 inX12_readWhole seX12_readWhole myX12_readWhole (by decide) ⟨by decide, by decide⟩ rfl (kR15 hS4820.1 ta0) (Nat.le_of_ble_eq_true rfl) rfl rfl (by decide) (by decide) (k_X12_readWhole hS4820.1 ta0) ?_
                          rintro v4839 cn' K' N' I4835 R4836 L4837 ⟨rfl, rfl, rfl, rfl, g4838, p4840, w4841, -⟩
                          have hS4842 := hS4820.tr g4838 (by decide +kernel) (by decide +kernel)
                          have c4843 : I4835 a1 0 = v29 := (g4838.cell ta1 (by decide +kernel)).trans c4821
                          have c4844 : I4835 a1 1 = v33 := (g4838.cell ta1 (by decide +kernel)).trans c4822
                          have b4845 : 0 ≤ v4839.toInt ∧ v4839.toInt ≤ 99 := by omega
                          clear p4840
                          have ov4846 := w4841.over (by rw [c4825]; omega)
                          obtain ⟨v4847, c4848⟩ : ∃ v, I4835 a0 9 = v := ⟨_, rfl⟩
                          have b4849 := iv15_9 hS4842.1 ta0 c4848
                          obtain ⟨v4850, c4851⟩ : ∃ v, I4835 a0 13 = v := ⟨_, rfl⟩
                          obtain ⟨v4852, c4853⟩ : ∃ v, I4835 a0 14 = v := ⟨_, rfl⟩
                          (try rw [c4848] at ov4846)
                          (try rw [c4851] at ov4846)
                          (try rw [c4853] at ov4846)
                          (try rw [c4825] at ov4846)
                          (try rw [c4828] at ov4846)
                          (try rw [c4830] at ov4846)
                          refine q_iast dX12_readAlp_78 (kR53 hS4842.1 ta4601) (ti_in (nR53 hS4842.1 ta4601) (by omega) (by omega)) hS4842 ta4601 (iokF rfl) rfl (by rfl) ?_
                          intro I4854 hS4855 e4857 f4856
                          have c4858 : I4854 a1 0 = v29 := (f4856 _ _ (fun q => by have z := ta1; rw [q.1, ta4601] at z; exact absurd z (by decide))).trans c4843
                          have c4859 : I4854 a1 1 = v33 := (f4856 _ _ (fun q => by have z := ta1; rw [q.1, ta4601] at z; exact absurd z (by decide))).trans c4844
                          have c4860 : I4854 a0 9 = v4847 := (f4856 _ _ (fun q => by have z := ta0; rw [q.1, ta4601] at z; exact absurd z (by decide))).trans c4848
                          have c4861 : I4854 a0 13 = v4850 := (f4856 _ _ (fun q => by have z := ta0; rw [q.1, ta4601] at z; exact absurd z (by decide))).trans c4851
                          have c4862 : I4854 a0 14 = v4852 := (f4856 _ _ (fun q => by have z := ta0; rw [q.1, ta4601] at z; exact absurd z (by decide))).trans c4853
                          refine q_iincE dX12_readAlp_79 rfl (by decide) (by decide) (by intros; omega) ?_
                          intro v4863 h4864
                          refine tr_goto 48 dX12_readAlp_82 (by decide) ?_
                          refine tr_iload_n dX12_readAlp_48 rfl ?_
                          refine q_iconst dX12_readAlp_49 (by decide) ?_
                          intro v4865 h4866
                          refine q_icmp_ge 85 dX12_readAlp_50 (by decide) (fun h4867 => ?_) (fun h4867 => ?_)
                          · skip
                            refine tr_aload_n dX12_readAlp_85 rfl ?_
                            refine q_getI dX12_readAlp_86 fl12_99 (kR15 hS4855.1 ta0) c4860 ?_
                            refine q_iconst dX12_readAlp_89 (by decide) ?_
                            intro v4868 h4869
                            refine q_icmp_ne 94 dX12_readAlp_90 (by decide) (fun h4870 => ?_) (fun h4870 => ?_)
                            · skip
                              exfalso; omega
                            · skip
                              have eF := hF.eq
                              have eP := hP.eq
                              obtain ⟨v4871, c4872⟩ : ∃ v, I4854 a0 10 = v := ⟨_, rfl⟩
                              have b4873 := iv15_10 hS4855.1 ta0 c4872
                              obtain ⟨v4874, c4875⟩ : ∃ v, I4854 a0 11 = v := ⟨_, rfl⟩
                              obtain ⟨y4876, c4877⟩ : ∃ v, L4837 a0 15 = v := ⟨_, rfl⟩
                              obtain ⟨v4878, c4879⟩ : ∃ v, I4854 a0 12 = v := ⟨_, rfl⟩
                              obtain ⟨v4880, c4881⟩ : ∃ v, I4854 a0 8 = v := ⟨_, rfl⟩
                              have b4882 := iv15_8 hS4855.1 ta0 c4881
                              exact tr_vret hZ dX12_readAlp_93 rfl (by decide) (by decide) ⟨rfl, rfl, rfl, rfl, rfl, hS4855, (Or.inr (⟨(by (try rw [w106]); first | done | omega), (by (try rw [w106]); (try rw [c4860]); first | done | omega), (by (try rw [w106]); (try rw [c4861]); first | done | omega), (by (try rw [w106]); (try rw [c4862]); first | done | omega), trivial⟩)), trivial⟩
                          · skip
                            exfalso; omega
        · skip
          exfalso; omega
    · skip
      obtain ⟨v4883, c4884⟩ : ∃ v, I120 a0 9 = v := ⟨_, rfl⟩
      have b4885 := iv15_9 hS128.1 ta0 c4884
      rw [c4884] at p163
      obtain ⟨v4886, c4887⟩ : ∃ v, I120 a0 13 = v := ⟨_, rfl⟩
      rw [c4887] at p164
      obtain ⟨v4888, c4889⟩ : ∃ v, I120 a0 14 = v := ⟨_, rfl⟩
      rw [c4889] at p165
      replace hF := hF.neg (by omega)
      replace hP := hP.neg (by omega)
      replace hF := hF.neg (by omega)
      replace hP := hP.neg (by omega)
      replace hF := hF.pos (by omega)
      replace hP := hP.pos (by omega)
      refine tr_istore_n dX12_readAlp_30 (by decide) (by decide) ?_
      refine tr_aload_n dX12_readAlp_31 rfl ?_
      refine tr_ldcS dX12_readAlp_32 ld12_253 ?_
      refine q_iconst dX12_readAlp_34 (by decide) ?_
      intro v4890 h4891
      refine q_iconst dX12_readAlp_35 (by decide) ?_
      intro v4892 h4893
      refine q_callVi hE (M' := mX12_readPart) (as := [_, _, _]) dX12_readAlp_36 lk12_249 inX12_readPart seX12_readPart myX12_readPart (by decide) ⟨by decide, by decide⟩ rfl (kR15 hS128.1 ta0) (Nat.le_of_ble_eq_true rfl) rfl rfl (by decide) (by decide) (k_X12_readPart hS128.1 ta0 (by decide)) ?_
      rintro v4898 cn' K' N' I4894 R4895 L4896 ⟨rfl, rfl, rfl, rfl, g4897, p4899, w4900, -⟩
      have hS4901 := hS128.tr g4897 (by decide +kernel) (by decide +kernel)
      have c4902 : I4894 a1 0 = v29 := (g4897.cell ta1 (by decide +kernel)).trans c129
      have c4903 : I4894 a1 1 = v33 := (g4897.cell ta1 (by decide +kernel)).trans c130
      have b4904 : 1 ≤ v4898.toInt ∧ v4898.toInt ≤ 4 := by omega
      clear p4899
      have ov4905 := w4900.over (by rw [c4884]; omega)
      obtain ⟨v4906, c4907⟩ : ∃ v, I4894 a0 9 = v := ⟨_, rfl⟩
      have b4908 := iv15_9 hS4901.1 ta0 c4907
      obtain ⟨v4909, c4910⟩ : ∃ v, I4894 a0 13 = v := ⟨_, rfl⟩
      obtain ⟨v4911, c4912⟩ : ∃ v, I4894 a0 14 = v := ⟨_, rfl⟩
      (try rw [c4907] at ov4905)
      (try rw [c4910] at ov4905)
      (try rw [c4912] at ov4905)
      (try rw [c4884] at ov4905)
      (try rw [c4887] at ov4905)
      (try rw [c4889] at ov4905)
      refine tr_istore_n dX12_readAlp_39 (by decide) (by decide) ?_
      refine tr_aload_n dX12_readAlp_40 rfl ?_
      refine tr_ldcS dX12_readAlp_41 ld12_255 ?_
      refine q_callVv hE (M' := mX12_needs) (as := [_]) dX12_readAlp_43 lk12_157 inX12_needs seX12_needs myX12_needs (by decide) ⟨by decide, by decide⟩ rfl (kR15 hS4901.1 ta0) (Nat.le_of_ble_eq_true rfl) rfl rfl (by decide) (by decide) (k_X12_needs hS4901.1 ta0 (by decide)) ?_
      rintro cn' K' N' I4913 R4914 L4915 ⟨rfl, rfl, rfl, rfl, g4916, w4918, -⟩
      have hS4919 := hS4901.tr g4916 (by decide +kernel) (by decide +kernel)
      have c4920 : I4913 a1 0 = v29 := (g4916.cell ta1 (by decide +kernel)).trans c4902
      have c4921 : I4913 a1 1 = v33 := (g4916.cell ta1 (by decide +kernel)).trans c4903
      have ov4922 := w4918.over (by rw [c4907]; omega)
      obtain ⟨v4923, c4924⟩ : ∃ v, I4913 a0 9 = v := ⟨_, rfl⟩
      have b4925 := iv15_9 hS4919.1 ta0 c4924
      obtain ⟨v4926, c4927⟩ : ∃ v, I4913 a0 13 = v := ⟨_, rfl⟩
      obtain ⟨v4928, c4929⟩ : ∃ v, I4913 a0 14 = v := ⟨_, rfl⟩
      (try rw [c4924] at ov4922)
      (try rw [c4927] at ov4922)
      (try rw [c4929] at ov4922)
      (try rw [c4907] at ov4922)
      (try rw [c4910] at ov4922)
      (try rw [c4912] at ov4922)
      refine q_iconst dX12_readAlp_46 (by decide) ?_
      intro v4930 h4931
      refine tr_istore_n dX12_readAlp_47 (by decide) (by decide) ?_
      refine tr_iload_n dX12_readAlp_48 rfl ?_
      refine q_iconst dX12_readAlp_49 (by decide) ?_
      intro v4932 h4933
      refine q_icmp_ge 85 dX12_readAlp_50 (by decide) (fun h4934 => ?_) (fun h4934 => ?_)
      · skip
        exfalso; omega
      · skip
        refine tr_iload_n dX12_readAlp_53 rfl ?_
        refine q_if_le 63 dX12_readAlp_54 (by decide) (fun h4935 => ?_) (fun h4935 => ?_)
        · skip
          refine tr_aload_n dX12_readAlp_63 rfl ?_
          refine tr_getR dX12_readAlp_64 fl12_188 (kR15 hS4919.1 ta0) d2 ?_
          obtain ⟨a4936, d4937, ta4936⟩ := rf14_10 hW0 ta1
          refine tr_getR dX12_readAlp_67 fl12_260 (kR14 hS4919.1 ta1) d4937 ?_
          refine tr_iload_n dX12_readAlp_70 rfl ?_
          refine tr_aload_n dX12_readAlp_71 rfl ?_
          refine q_iconst dX12_readAlp_72 (by decide) ?_
          intro v4938 h4939
          refine q_bipush dX12_readAlp_73 (by decide +kernel) ?_
          intro v4940 h4941
          refine q_callVi hE (M' := mX12_readWhole) (as := [_, _]) dX12_readAlp_75 lk12_161 inX12_readWhole seX12_readWhole myX12_readWhole (by decide) ⟨by decide, by decide⟩ rfl (kR15 hS4919.1 ta0) (Nat.le_of_ble_eq_true rfl) rfl rfl (by decide) (by decide) (k_X12_readWhole hS4919.1 ta0) ?_
          rintro v4946 cn' K' N' I4942 R4943 L4944 ⟨rfl, rfl, rfl, rfl, g4945, p4947, w4948, -⟩
          have hS4949 := hS4919.tr g4945 (by decide +kernel) (by decide +kernel)
          have c4950 : I4942 a1 0 = v29 := (g4945.cell ta1 (by decide +kernel)).trans c4920
          have c4951 : I4942 a1 1 = v33 := (g4945.cell ta1 (by decide +kernel)).trans c4921
          have b4952 : 0 ≤ v4946.toInt ∧ v4946.toInt ≤ 99 := by omega
          clear p4947
          have ov4953 := w4948.over (by rw [c4924]; omega)
          obtain ⟨v4954, c4955⟩ : ∃ v, I4942 a0 9 = v := ⟨_, rfl⟩
          have b4956 := iv15_9 hS4949.1 ta0 c4955
          obtain ⟨v4957, c4958⟩ : ∃ v, I4942 a0 13 = v := ⟨_, rfl⟩
          obtain ⟨v4959, c4960⟩ : ∃ v, I4942 a0 14 = v := ⟨_, rfl⟩
          (try rw [c4955] at ov4953)
          (try rw [c4958] at ov4953)
          (try rw [c4960] at ov4953)
          (try rw [c4924] at ov4953)
          (try rw [c4927] at ov4953)
          (try rw [c4929] at ov4953)
          refine q_iast dX12_readAlp_78 (kR53 hS4949.1 ta4936) (ti_in (nR53 hS4949.1 ta4936) (by omega) (by omega)) hS4949 ta4936 (iokF rfl) rfl (by rfl) ?_
          intro I4961 hS4962 e4964 f4963
          have c4965 : I4961 a1 0 = v29 := (f4963 _ _ (fun q => by have z := ta1; rw [q.1, ta4936] at z; exact absurd z (by decide))).trans c4950
          have c4966 : I4961 a1 1 = v33 := (f4963 _ _ (fun q => by have z := ta1; rw [q.1, ta4936] at z; exact absurd z (by decide))).trans c4951
          have c4967 : I4961 a0 9 = v4954 := (f4963 _ _ (fun q => by have z := ta0; rw [q.1, ta4936] at z; exact absurd z (by decide))).trans c4955
          have c4968 : I4961 a0 13 = v4957 := (f4963 _ _ (fun q => by have z := ta0; rw [q.1, ta4936] at z; exact absurd z (by decide))).trans c4958
          have c4969 : I4961 a0 14 = v4959 := (f4963 _ _ (fun q => by have z := ta0; rw [q.1, ta4936] at z; exact absurd z (by decide))).trans c4960
          refine q_iincE dX12_readAlp_79 rfl (by decide) (by decide) (by intros; omega) ?_
          intro v4970 h4971
          refine tr_goto 48 dX12_readAlp_82 (by decide) ?_
          refine tr_iload_n dX12_readAlp_48 rfl ?_
          refine q_iconst dX12_readAlp_49 (by decide) ?_
          intro v4972 h4973
          refine q_icmp_ge 85 dX12_readAlp_50 (by decide) (fun h4974 => ?_) (fun h4974 => ?_)
          · skip
            exfalso; omega
          · skip
            refine tr_iload_n dX12_readAlp_53 rfl ?_
            refine q_if_le 63 dX12_readAlp_54 (by decide) (fun h4975 => ?_) (fun h4975 => ?_)
            · skip
              exfalso; omega
            · skip
              refine tr_aload_n dX12_readAlp_57 rfl ?_
              refine q_bipush dX12_readAlp_58 (by decide +kernel) ?_
              intro v4976 h4977
              refine q_callVv hE (M' := mX12_needsSign) (as := [_]) dX12_readAlp_60 lk12_257 inX12_needsSign seX12_needsSign myX12_needsSign (by decide) ⟨by decide, by decide⟩ rfl (kR15 hS4962.1 ta0) (Nat.le_of_ble_eq_true rfl) rfl rfl (by decide) (by decide) (k_X12_needsSign hS4962.1 ta0) ?_
              rintro cn' K' N' I4978 R4979 L4980 ⟨rfl, rfl, rfl, rfl, g4981, w4983, -⟩
              have hS4984 := hS4962.tr g4981 (by decide +kernel) (by decide +kernel)
              have c4985 : I4978 a1 0 = v29 := (g4981.cell ta1 (by decide +kernel)).trans c4965
              have c4986 : I4978 a1 1 = v33 := (g4981.cell ta1 (by decide +kernel)).trans c4966
              have ov4987 := w4983.over (by rw [c4967]; omega)
              obtain ⟨v4988, c4989⟩ : ∃ v, I4978 a0 9 = v := ⟨_, rfl⟩
              have b4990 := iv15_9 hS4984.1 ta0 c4989
              obtain ⟨v4991, c4992⟩ : ∃ v, I4978 a0 13 = v := ⟨_, rfl⟩
              obtain ⟨v4993, c4994⟩ : ∃ v, I4978 a0 14 = v := ⟨_, rfl⟩
              (try rw [c4989] at ov4987)
              (try rw [c4992] at ov4987)
              (try rw [c4994] at ov4987)
              (try rw [c4967] at ov4987)
              (try rw [c4968] at ov4987)
              (try rw [c4969] at ov4987)
              refine tr_aload_n dX12_readAlp_63 rfl ?_
              refine tr_getR dX12_readAlp_64 fl12_188 (kR15 hS4984.1 ta0) d2 ?_
              refine tr_getR dX12_readAlp_67 fl12_260 (kR14 hS4984.1 ta1) d4937 ?_
              refine tr_iload_n dX12_readAlp_70 rfl ?_
              refine tr_aload_n dX12_readAlp_71 rfl ?_
              refine q_iconst dX12_readAlp_72 (by decide) ?_
              intro v4995 h4996
              refine q_bipush dX12_readAlp_73 (by decide +kernel) ?_
              intro v4997 h4998
              refine q_callVi hE (M' := mX12_readWhole) (as := [_, _]) dX12_readAlp_75 lk12_161 inX12_readWhole seX12_readWhole myX12_readWhole (by decide) ⟨by decide, by decide⟩ rfl (kR15 hS4984.1 ta0) (Nat.le_of_ble_eq_true rfl) rfl rfl (by decide) (by decide) (k_X12_readWhole hS4984.1 ta0) ?_
              rintro v5003 cn' K' N' I4999 R5000 L5001 ⟨rfl, rfl, rfl, rfl, g5002, p5004, w5005, -⟩
              have hS5006 := hS4984.tr g5002 (by decide +kernel) (by decide +kernel)
              have c5007 : I4999 a1 0 = v29 := (g5002.cell ta1 (by decide +kernel)).trans c4985
              have c5008 : I4999 a1 1 = v33 := (g5002.cell ta1 (by decide +kernel)).trans c4986
              have b5009 : 0 ≤ v5003.toInt ∧ v5003.toInt ≤ 99 := by omega
              clear p5004
              have ov5010 := w5005.over (by rw [c4989]; omega)
              obtain ⟨v5011, c5012⟩ : ∃ v, I4999 a0 9 = v := ⟨_, rfl⟩
              have b5013 := iv15_9 hS5006.1 ta0 c5012
              obtain ⟨v5014, c5015⟩ : ∃ v, I4999 a0 13 = v := ⟨_, rfl⟩
              obtain ⟨v5016, c5017⟩ : ∃ v, I4999 a0 14 = v := ⟨_, rfl⟩
              (try rw [c5012] at ov5010)
              (try rw [c5015] at ov5010)
              (try rw [c5017] at ov5010)
              (try rw [c4989] at ov5010)
              (try rw [c4992] at ov5010)
              (try rw [c4994] at ov5010)
              refine q_iast dX12_readAlp_78 (kR53 hS5006.1 ta4936) (ti_in (nR53 hS5006.1 ta4936) (by omega) (by omega)) hS5006 ta4936 (iokF rfl) rfl (by rfl) ?_
              intro I5018 hS5019 e5021 f5020
              have c5022 : I5018 a1 0 = v29 := (f5020 _ _ (fun q => by have z := ta1; rw [q.1, ta4936] at z; exact absurd z (by decide))).trans c5007
              have c5023 : I5018 a1 1 = v33 := (f5020 _ _ (fun q => by have z := ta1; rw [q.1, ta4936] at z; exact absurd z (by decide))).trans c5008
              have c5024 : I5018 a0 9 = v5011 := (f5020 _ _ (fun q => by have z := ta0; rw [q.1, ta4936] at z; exact absurd z (by decide))).trans c5012
              have c5025 : I5018 a0 13 = v5014 := (f5020 _ _ (fun q => by have z := ta0; rw [q.1, ta4936] at z; exact absurd z (by decide))).trans c5015
              have c5026 : I5018 a0 14 = v5016 := (f5020 _ _ (fun q => by have z := ta0; rw [q.1, ta4936] at z; exact absurd z (by decide))).trans c5017
              refine q_iincE dX12_readAlp_79 rfl (by decide) (by decide) (by intros; omega) ?_
              intro v5027 h5028
              refine tr_goto 48 dX12_readAlp_82 (by decide) ?_
              refine tr_iload_n dX12_readAlp_48 rfl ?_
              refine q_iconst dX12_readAlp_49 (by decide) ?_
              intro v5029 h5030
              refine q_icmp_ge 85 dX12_readAlp_50 (by decide) (fun h5031 => ?_) (fun h5031 => ?_)
              · skip
                exfalso; omega
              · skip
                refine tr_iload_n dX12_readAlp_53 rfl ?_
                refine q_if_le 63 dX12_readAlp_54 (by decide) (fun h5032 => ?_) (fun h5032 => ?_)
                · skip
                  exfalso; omega
                · skip
                  refine tr_aload_n dX12_readAlp_57 rfl ?_
                  refine q_bipush dX12_readAlp_58 (by decide +kernel) ?_
                  intro v5033 h5034
                  refine q_callVv hE (M' := mX12_needsSign) (as := [_]) dX12_readAlp_60 lk12_257 inX12_needsSign seX12_needsSign myX12_needsSign (by decide) ⟨by decide, by decide⟩ rfl (kR15 hS5019.1 ta0) (Nat.le_of_ble_eq_true rfl) rfl rfl (by decide) (by decide) (k_X12_needsSign hS5019.1 ta0) ?_
                  rintro cn' K' N' I5035 R5036 L5037 ⟨rfl, rfl, rfl, rfl, g5038, w5040, -⟩
                  have hS5041 := hS5019.tr g5038 (by decide +kernel) (by decide +kernel)
                  have c5042 : I5035 a1 0 = v29 := (g5038.cell ta1 (by decide +kernel)).trans c5022
                  have c5043 : I5035 a1 1 = v33 := (g5038.cell ta1 (by decide +kernel)).trans c5023
                  have ov5044 := w5040.over (by rw [c5024]; omega)
                  obtain ⟨v5045, c5046⟩ : ∃ v, I5035 a0 9 = v := ⟨_, rfl⟩
                  have b5047 := iv15_9 hS5041.1 ta0 c5046
                  obtain ⟨v5048, c5049⟩ : ∃ v, I5035 a0 13 = v := ⟨_, rfl⟩
                  obtain ⟨v5050, c5051⟩ : ∃ v, I5035 a0 14 = v := ⟨_, rfl⟩
                  (try rw [c5046] at ov5044)
                  (try rw [c5049] at ov5044)
                  (try rw [c5051] at ov5044)
                  (try rw [c5024] at ov5044)
                  (try rw [c5025] at ov5044)
                  (try rw [c5026] at ov5044)
                  refine tr_aload_n dX12_readAlp_63 rfl ?_
                  refine tr_getR dX12_readAlp_64 fl12_188 (kR15 hS5041.1 ta0) d2 ?_
                  refine tr_getR dX12_readAlp_67 fl12_260 (kR14 hS5041.1 ta1) d4937 ?_
                  refine tr_iload_n dX12_readAlp_70 rfl ?_
                  refine tr_aload_n dX12_readAlp_71 rfl ?_
                  refine q_iconst dX12_readAlp_72 (by decide) ?_
                  intro v5052 h5053
                  refine q_bipush dX12_readAlp_73 (by decide +kernel) ?_
                  intro v5054 h5055
                  refine q_callVi hE (M' := mX12_readWhole) (as := [_, _]) dX12_readAlp_75 lk12_161 inX12_readWhole seX12_readWhole myX12_readWhole (by decide) ⟨by decide, by decide⟩ rfl (kR15 hS5041.1 ta0) (Nat.le_of_ble_eq_true rfl) rfl rfl (by decide) (by decide) (k_X12_readWhole hS5041.1 ta0) ?_
                  rintro v5060 cn' K' N' I5056 R5057 L5058 ⟨rfl, rfl, rfl, rfl, g5059, p5061, w5062, -⟩
                  have hS5063 := hS5041.tr g5059 (by decide +kernel) (by decide +kernel)
                  have c5064 : I5056 a1 0 = v29 := (g5059.cell ta1 (by decide +kernel)).trans c5042
                  have c5065 : I5056 a1 1 = v33 := (g5059.cell ta1 (by decide +kernel)).trans c5043
                  have b5066 : 0 ≤ v5060.toInt ∧ v5060.toInt ≤ 99 := by omega
                  clear p5061
                  have ov5067 := w5062.over (by rw [c5046]; omega)
                  obtain ⟨v5068, c5069⟩ : ∃ v, I5056 a0 9 = v := ⟨_, rfl⟩
                  have b5070 := iv15_9 hS5063.1 ta0 c5069
                  obtain ⟨v5071, c5072⟩ : ∃ v, I5056 a0 13 = v := ⟨_, rfl⟩
                  obtain ⟨v5073, c5074⟩ : ∃ v, I5056 a0 14 = v := ⟨_, rfl⟩
                  (try rw [c5069] at ov5067)
                  (try rw [c5072] at ov5067)
                  (try rw [c5074] at ov5067)
                  (try rw [c5046] at ov5067)
                  (try rw [c5049] at ov5067)
                  (try rw [c5051] at ov5067)
                  refine q_iast dX12_readAlp_78 (kR53 hS5063.1 ta4936) (ti_in (nR53 hS5063.1 ta4936) (by omega) (by omega)) hS5063 ta4936 (iokF rfl) rfl (by rfl) ?_
                  intro I5075 hS5076 e5078 f5077
                  have c5079 : I5075 a1 0 = v29 := (f5077 _ _ (fun q => by have z := ta1; rw [q.1, ta4936] at z; exact absurd z (by decide))).trans c5064
                  have c5080 : I5075 a1 1 = v33 := (f5077 _ _ (fun q => by have z := ta1; rw [q.1, ta4936] at z; exact absurd z (by decide))).trans c5065
                  have c5081 : I5075 a0 9 = v5068 := (f5077 _ _ (fun q => by have z := ta0; rw [q.1, ta4936] at z; exact absurd z (by decide))).trans c5069
                  have c5082 : I5075 a0 13 = v5071 := (f5077 _ _ (fun q => by have z := ta0; rw [q.1, ta4936] at z; exact absurd z (by decide))).trans c5072
                  have c5083 : I5075 a0 14 = v5073 := (f5077 _ _ (fun q => by have z := ta0; rw [q.1, ta4936] at z; exact absurd z (by decide))).trans c5074
                  refine q_iincE dX12_readAlp_79 rfl (by decide) (by decide) (by intros; omega) ?_
                  intro v5084 h5085
                  refine tr_goto 48 dX12_readAlp_82 (by decide) ?_
                  refine tr_iload_n dX12_readAlp_48 rfl ?_
                  refine q_iconst dX12_readAlp_49 (by decide) ?_
                  intro v5086 h5087
                  refine q_icmp_ge 85 dX12_readAlp_50 (by decide) (fun h5088 => ?_) (fun h5088 => ?_)
                  · skip
                    exfalso; omega
                  · skip
                    refine tr_iload_n dX12_readAlp_53 rfl ?_
                    refine q_if_le 63 dX12_readAlp_54 (by decide) (fun h5089 => ?_) (fun h5089 => ?_)
                    · skip
                      exfalso; omega
                    · skip
                      refine tr_aload_n dX12_readAlp_57 rfl ?_
                      refine q_bipush dX12_readAlp_58 (by decide +kernel) ?_
                      intro v5090 h5091
                      refine q_callVv hE (M' := mX12_needsSign) (as := [_]) dX12_readAlp_60 lk12_257 inX12_needsSign seX12_needsSign myX12_needsSign (by decide) ⟨by decide, by decide⟩ rfl (kR15 hS5076.1 ta0) (Nat.le_of_ble_eq_true rfl) rfl rfl (by decide) (by decide) (k_X12_needsSign hS5076.1 ta0) ?_
                      rintro cn' K' N' I5092 R5093 L5094 ⟨rfl, rfl, rfl, rfl, g5095, w5097, -⟩
                      have hS5098 := hS5076.tr g5095 (by decide +kernel) (by decide +kernel)
                      have c5099 : I5092 a1 0 = v29 := (g5095.cell ta1 (by decide +kernel)).trans c5079
                      have c5100 : I5092 a1 1 = v33 := (g5095.cell ta1 (by decide +kernel)).trans c5080
                      have ov5101 := w5097.over (by rw [c5081]; omega)
                      obtain ⟨v5102, c5103⟩ : ∃ v, I5092 a0 9 = v := ⟨_, rfl⟩
                      have b5104 := iv15_9 hS5098.1 ta0 c5103
                      obtain ⟨v5105, c5106⟩ : ∃ v, I5092 a0 13 = v := ⟨_, rfl⟩
                      obtain ⟨v5107, c5108⟩ : ∃ v, I5092 a0 14 = v := ⟨_, rfl⟩
                      (try rw [c5103] at ov5101)
                      (try rw [c5106] at ov5101)
                      (try rw [c5108] at ov5101)
                      (try rw [c5081] at ov5101)
                      (try rw [c5082] at ov5101)
                      (try rw [c5083] at ov5101)
                      refine tr_aload_n dX12_readAlp_63 rfl ?_
                      refine tr_getR dX12_readAlp_64 fl12_188 (kR15 hS5098.1 ta0) d2 ?_
                      refine tr_getR dX12_readAlp_67 fl12_260 (kR14 hS5098.1 ta1) d4937 ?_
                      refine tr_iload_n dX12_readAlp_70 rfl ?_
                      refine tr_aload_n dX12_readAlp_71 rfl ?_
                      refine q_iconst dX12_readAlp_72 (by decide) ?_
                      intro v5109 h5110
                      refine q_bipush dX12_readAlp_73 (by decide +kernel) ?_
                      intro v5111 h5112
                      refine q_callVi hE (M' := mX12_readWhole) (as := [_, _]) dX12_readAlp_75 lk12_161 inX12_readWhole seX12_readWhole myX12_readWhole (by decide) ⟨by decide, by decide⟩ rfl (kR15 hS5098.1 ta0) (Nat.le_of_ble_eq_true rfl) rfl rfl (by decide) (by decide) (k_X12_readWhole hS5098.1 ta0) ?_
                      rintro v5117 cn' K' N' I5113 R5114 L5115 ⟨rfl, rfl, rfl, rfl, g5116, p5118, w5119, -⟩
                      have hS5120 := hS5098.tr g5116 (by decide +kernel) (by decide +kernel)
                      have c5121 : I5113 a1 0 = v29 := (g5116.cell ta1 (by decide +kernel)).trans c5099
                      have c5122 : I5113 a1 1 = v33 := (g5116.cell ta1 (by decide +kernel)).trans c5100
                      have b5123 : 0 ≤ v5117.toInt ∧ v5117.toInt ≤ 99 := by omega
                      clear p5118
                      have ov5124 := w5119.over (by rw [c5103]; omega)
                      obtain ⟨v5125, c5126⟩ : ∃ v, I5113 a0 9 = v := ⟨_, rfl⟩
                      have b5127 := iv15_9 hS5120.1 ta0 c5126
                      obtain ⟨v5128, c5129⟩ : ∃ v, I5113 a0 13 = v := ⟨_, rfl⟩
                      obtain ⟨v5130, c5131⟩ : ∃ v, I5113 a0 14 = v := ⟨_, rfl⟩
                      (try rw [c5126] at ov5124)
                      (try rw [c5129] at ov5124)
                      (try rw [c5131] at ov5124)
                      (try rw [c5103] at ov5124)
                      (try rw [c5106] at ov5124)
                      (try rw [c5108] at ov5124)
                      refine q_iast dX12_readAlp_78 (kR53 hS5120.1 ta4936) (ti_in (nR53 hS5120.1 ta4936) (by omega) (by omega)) hS5120 ta4936 (iokF rfl) rfl (by rfl) ?_
                      intro I5132 hS5133 e5135 f5134
                      have c5136 : I5132 a1 0 = v29 := (f5134 _ _ (fun q => by have z := ta1; rw [q.1, ta4936] at z; exact absurd z (by decide))).trans c5121
                      have c5137 : I5132 a1 1 = v33 := (f5134 _ _ (fun q => by have z := ta1; rw [q.1, ta4936] at z; exact absurd z (by decide))).trans c5122
                      have c5138 : I5132 a0 9 = v5125 := (f5134 _ _ (fun q => by have z := ta0; rw [q.1, ta4936] at z; exact absurd z (by decide))).trans c5126
                      have c5139 : I5132 a0 13 = v5128 := (f5134 _ _ (fun q => by have z := ta0; rw [q.1, ta4936] at z; exact absurd z (by decide))).trans c5129
                      have c5140 : I5132 a0 14 = v5130 := (f5134 _ _ (fun q => by have z := ta0; rw [q.1, ta4936] at z; exact absurd z (by decide))).trans c5131
                      refine q_iincE dX12_readAlp_79 rfl (by decide) (by decide) (by intros; omega) ?_
                      intro v5141 h5142
                      refine tr_goto 48 dX12_readAlp_82 (by decide) ?_
                      refine tr_iload_n dX12_readAlp_48 rfl ?_
                      refine q_iconst dX12_readAlp_49 (by decide) ?_
                      intro v5143 h5144
                      refine q_icmp_ge 85 dX12_readAlp_50 (by decide) (fun h5145 => ?_) (fun h5145 => ?_)
                      · skip
                        exfalso; omega
                      · skip
                        refine tr_iload_n dX12_readAlp_53 rfl ?_
                        refine q_if_le 63 dX12_readAlp_54 (by decide) (fun h5146 => ?_) (fun h5146 => ?_)
                        · skip
                          exfalso; omega
                        · skip
                          refine tr_aload_n dX12_readAlp_57 rfl ?_
                          refine q_bipush dX12_readAlp_58 (by decide +kernel) ?_
                          intro v5147 h5148
                          refine q_callVv hE (M' := mX12_needsSign) (as := [_]) dX12_readAlp_60 lk12_257 inX12_needsSign seX12_needsSign myX12_needsSign (by decide) ⟨by decide, by decide⟩ rfl (kR15 hS5133.1 ta0) (Nat.le_of_ble_eq_true rfl) rfl rfl (by decide) (by decide) (k_X12_needsSign hS5133.1 ta0) ?_
                          rintro cn' K' N' I5149 R5150 L5151 ⟨rfl, rfl, rfl, rfl, g5152, w5154, -⟩
                          have hS5155 := hS5133.tr g5152 (by decide +kernel) (by decide +kernel)
                          have c5156 : I5149 a1 0 = v29 := (g5152.cell ta1 (by decide +kernel)).trans c5136
                          have c5157 : I5149 a1 1 = v33 := (g5152.cell ta1 (by decide +kernel)).trans c5137
                          have ov5158 := w5154.over (by rw [c5138]; omega)
                          obtain ⟨v5159, c5160⟩ : ∃ v, I5149 a0 9 = v := ⟨_, rfl⟩
                          have b5161 := iv15_9 hS5155.1 ta0 c5160
                          obtain ⟨v5162, c5163⟩ : ∃ v, I5149 a0 13 = v := ⟨_, rfl⟩
                          obtain ⟨v5164, c5165⟩ : ∃ v, I5149 a0 14 = v := ⟨_, rfl⟩
                          (try rw [c5160] at ov5158)
                          (try rw [c5163] at ov5158)
                          (try rw [c5165] at ov5158)
                          (try rw [c5138] at ov5158)
                          (try rw [c5139] at ov5158)
                          (try rw [c5140] at ov5158)
                          refine tr_aload_n dX12_readAlp_63 rfl ?_
                          refine tr_getR dX12_readAlp_64 fl12_188 (kR15 hS5155.1 ta0) d2 ?_
                          refine tr_getR dX12_readAlp_67 fl12_260 (kR14 hS5155.1 ta1) d4937 ?_
                          refine tr_iload_n dX12_readAlp_70 rfl ?_
                          refine tr_aload_n dX12_readAlp_71 rfl ?_
                          refine q_iconst dX12_readAlp_72 (by decide) ?_
                          intro v5166 h5167
                          refine q_bipush dX12_readAlp_73 (by decide +kernel) ?_
                          intro v5168 h5169
                          refine q_callVi hE (M' := mX12_readWhole) (as := [_, _]) dX12_readAlp_75 lk12_161 inX12_readWhole seX12_readWhole myX12_readWhole (by decide) ⟨by decide, by decide⟩ rfl (kR15 hS5155.1 ta0) (Nat.le_of_ble_eq_true rfl) rfl rfl (by decide) (by decide) (k_X12_readWhole hS5155.1 ta0) ?_
                          rintro v5174 cn' K' N' I5170 R5171 L5172 ⟨rfl, rfl, rfl, rfl, g5173, p5175, w5176, -⟩
                          have hS5177 := hS5155.tr g5173 (by decide +kernel) (by decide +kernel)
                          have c5178 : I5170 a1 0 = v29 := (g5173.cell ta1 (by decide +kernel)).trans c5156
                          have c5179 : I5170 a1 1 = v33 := (g5173.cell ta1 (by decide +kernel)).trans c5157
                          have b5180 : 0 ≤ v5174.toInt ∧ v5174.toInt ≤ 99 := by omega
                          clear p5175
                          have ov5181 := w5176.over (by rw [c5160]; omega)
                          obtain ⟨v5182, c5183⟩ : ∃ v, I5170 a0 9 = v := ⟨_, rfl⟩
                          have b5184 := iv15_9 hS5177.1 ta0 c5183
                          obtain ⟨v5185, c5186⟩ : ∃ v, I5170 a0 13 = v := ⟨_, rfl⟩
                          obtain ⟨v5187, c5188⟩ : ∃ v, I5170 a0 14 = v := ⟨_, rfl⟩
                          (try rw [c5183] at ov5181)
                          (try rw [c5186] at ov5181)
                          (try rw [c5188] at ov5181)
                          (try rw [c5160] at ov5181)
                          (try rw [c5163] at ov5181)
                          (try rw [c5165] at ov5181)
                          refine q_iast dX12_readAlp_78 (kR53 hS5177.1 ta4936) (ti_in (nR53 hS5177.1 ta4936) (by omega) (by omega)) hS5177 ta4936 (iokF rfl) rfl (by rfl) ?_
                          intro I5189 hS5190 e5192 f5191
                          have c5193 : I5189 a1 0 = v29 := (f5191 _ _ (fun q => by have z := ta1; rw [q.1, ta4936] at z; exact absurd z (by decide))).trans c5178
                          have c5194 : I5189 a1 1 = v33 := (f5191 _ _ (fun q => by have z := ta1; rw [q.1, ta4936] at z; exact absurd z (by decide))).trans c5179
                          have c5195 : I5189 a0 9 = v5182 := (f5191 _ _ (fun q => by have z := ta0; rw [q.1, ta4936] at z; exact absurd z (by decide))).trans c5183
                          have c5196 : I5189 a0 13 = v5185 := (f5191 _ _ (fun q => by have z := ta0; rw [q.1, ta4936] at z; exact absurd z (by decide))).trans c5186
                          have c5197 : I5189 a0 14 = v5187 := (f5191 _ _ (fun q => by have z := ta0; rw [q.1, ta4936] at z; exact absurd z (by decide))).trans c5188
                          refine q_iincE dX12_readAlp_79 rfl (by decide) (by decide) (by intros; omega) ?_
                          intro v5198 h5199
                          refine tr_goto 48 dX12_readAlp_82 (by decide) ?_
                          refine tr_iload_n dX12_readAlp_48 rfl ?_
                          refine q_iconst dX12_readAlp_49 (by decide) ?_
                          intro v5200 h5201
                          refine q_icmp_ge 85 dX12_readAlp_50 (by decide) (fun h5202 => ?_) (fun h5202 => ?_)
                          · skip
                            refine tr_aload_n dX12_readAlp_85 rfl ?_
                            refine q_getI dX12_readAlp_86 fl12_99 (kR15 hS5190.1 ta0) c5195 ?_
                            refine q_iconst dX12_readAlp_89 (by decide) ?_
                            intro v5203 h5204
                            refine q_icmp_ne 94 dX12_readAlp_90 (by decide) (fun h5205 => ?_) (fun h5205 => ?_)
                            · skip
                              exfalso; omega
                            · skip
                              have eF := hF.eq
                              have eP := hP.eq
                              obtain ⟨v5206, c5207⟩ : ∃ v, I5189 a0 10 = v := ⟨_, rfl⟩
                              have b5208 := iv15_10 hS5190.1 ta0 c5207
                              obtain ⟨v5209, c5210⟩ : ∃ v, I5189 a0 11 = v := ⟨_, rfl⟩
                              obtain ⟨y5211, c5212⟩ : ∃ v, L5172 a0 15 = v := ⟨_, rfl⟩
                              obtain ⟨v5213, c5214⟩ : ∃ v, I5189 a0 12 = v := ⟨_, rfl⟩
                              obtain ⟨v5215, c5216⟩ : ∃ v, I5189 a0 8 = v := ⟨_, rfl⟩
                              have b5217 := iv15_8 hS5190.1 ta0 c5216
                              exact tr_vret hZ dX12_readAlp_93 rfl (by decide) (by decide) ⟨rfl, rfl, rfl, rfl, rfl, hS5190, (Or.inr (⟨(by (try rw [w106]); first | done | omega), (by (try rw [w106]); (try rw [c5195]); first | done | omega), (by (try rw [w106]); (try rw [c5196]); first | done | omega), (by (try rw [w106]); (try rw [c5197]); first | done | omega), trivial⟩)), trivial⟩
                          · skip
                            exfalso; omega
        · skip
          exfalso; omega
  · skip
    have p5218 := p61
    unfold Q7M at p5218
    replace hF := hF.pos (by omega)
    replace hP := hP.pos (by omega)
    refine tr_aload_n dX12_readAlp_10 rfl ?_
    refine q_iconst dX12_readAlp_11 (by decide) ?_
    intro v5219 h5220
    refine q_callVv hE (M' := mX12_flaw) (as := [_]) dX12_readAlp_12 lk12_145 inX12_flaw seX12_flaw myX12_flaw (by decide) ⟨by decide, by decide⟩ rfl (kR15 hS0.1 ta0) (Nat.le_of_ble_eq_true rfl) rfl rfl (by decide) (by decide) (fk_X12_flaw hS0.1  ta0 (by omega) (by (try rw [c4]); first | done | omega)) ?_
    rintro cn' K' N' I5221 R5222 L5223 ⟨rfl, rfl, rfl, rfl, rfl, g5224, p5227, p5228, p5229, -⟩
    have hM5230 : NmM I5221 R0 L0 a1 gQ := NmM.kpS hM0 g5224 hS0.1 ta1 (by decide +kernel) (by decide +kernel)
    have hS5231 := hS0.tr g5224 (by decide +kernel) (by decide +kernel)
    have c5232 : I5221 a0 10 = v8 := (g5224.cell ta0 (by decide +kernel)).trans c9
    have c5233 : I5221 a0 11 = v12 := (g5224.cell ta0 (by decide +kernel)).trans c13
    have c5234 : I5221 a0 12 = v18 := (g5224.cell ta0 (by decide +kernel)).trans c19
    have c5235 : I5221 a0 8 = v21 := (g5224.cell ta0 (by decide +kernel)).trans c22
    have c5236 : I5221 a1 0 = v29 := (g5224.cell ta1 (by decide +kernel)).trans c30
    have c5237 : I5221 a1 1 = v33 := (g5224.cell ta1 (by decide +kernel)).trans c34
    obtain ⟨v5238, c5239⟩ : ∃ v, I5221 a0 9 = v := ⟨_, rfl⟩
    have b5240 := iv15_9 hS5231.1 ta0 c5239
    rw [c5239] at p5227
    obtain ⟨v5241, c5242⟩ : ∃ v, I5221 a0 13 = v := ⟨_, rfl⟩
    rw [c5242] at p5228
    obtain ⟨v5243, c5244⟩ : ∃ v, I5221 a0 14 = v := ⟨_, rfl⟩
    rw [c5244] at p5229
    rw [c9] at p5229
    refine tr_aload_n dX12_readAlp_15 rfl ?_
    refine q_callVv hE (M' := mX12_goesOn) (as := []) dX12_readAlp_16 lk12_142 inX12_goesOn seX12_goesOn myX12_goesOn (by decide) ⟨by decide, by decide⟩ rfl (kR15 hS5231.1 ta0) (Nat.le_of_ble_eq_true rfl) rfl rfl (by decide) (by decide) (k_X12_goesOn hS5231.1 ta0) ?_
    rintro cn' K' N' I5245 R5246 L5247 ⟨rfl, rfl, rfl, rfl, g5248, p5250, p5251, p5252, w5253, -⟩
    have hS5254 := hS5231.tr g5248 (by decide +kernel) (by decide +kernel)
    have c5255 : I5245 a1 0 = v29 := (g5248.cell ta1 (by decide +kernel)).trans c5236
    have c5256 : I5245 a1 1 = v33 := (g5248.cell ta1 (by decide +kernel)).trans c5237
    have c5257 : I5245 a0 13 = v5241 := (g5248.cell ta0 (by decide +kernel)).trans c5242
    have c5258 : I5245 a0 14 = v5243 := (g5248.cell ta0 (by decide +kernel)).trans c5244
    obtain ⟨v5259, c5260⟩ : ∃ v, I5245 a0 9 = v := ⟨_, rfl⟩
    have b5261 := iv15_9 hS5254.1 ta0 c5260
    rw [c5239] at p5250
    rw [c5260] at p5250
    rw [c5239] at p5251
    rw [c5260] at p5251
    obtain ⟨v5262, c5263⟩ : ∃ v, I5245 a0 8 = v := ⟨_, rfl⟩
    have b5264 := iv15_8 hS5254.1 ta0 c5263
    rw [c5263] at p5252
    rw [c5235] at p5252
    rw [c5257] at p5252
    rw [c5242] at p5252
    have ov5265 := w5253.over (by rw [c5239]; omega)
    obtain ⟨v5266, c5267⟩ : ∃ v, I5245 a0 9 = v := ⟨_, rfl⟩
    have b5268 := iv15_9 hS5254.1 ta0 c5267
    obtain ⟨v5269, c5270⟩ : ∃ v, I5245 a0 13 = v := ⟨_, rfl⟩
    obtain ⟨v5271, c5272⟩ : ∃ v, I5245 a0 14 = v := ⟨_, rfl⟩
    (try rw [c5267] at ov5265)
    (try rw [c5270] at ov5265)
    (try rw [c5272] at ov5265)
    (try rw [c5239] at ov5265)
    (try rw [c5242] at ov5265)
    (try rw [c5244] at ov5265)
    refine tr_aload_n dX12_readAlp_19 rfl ?_
    refine tr_ldcS dX12_readAlp_20 ld12_248 ?_
    refine q_bipush dX12_readAlp_22 (by decide +kernel) ?_
    intro v5273 h5274
    refine q_sipush dX12_readAlp_24 (by decide +kernel) ?_
    intro v5275 h5276
    refine q_callVi hE (M' := mX12_readPart) (as := [_, _, _]) dX12_readAlp_27 lk12_249 inX12_readPart seX12_readPart myX12_readPart (by decide) ⟨by decide, by decide⟩ rfl (kR15 hS5254.1 ta0) (Nat.le_of_ble_eq_true rfl) rfl rfl (by decide) (by decide) (k_X12_readPart hS5254.1 ta0 (by decide)) ?_
    rintro v5281 cn' K' N' I5277 R5278 L5279 ⟨rfl, rfl, rfl, rfl, g5280, p5282, w5283, -⟩
    have hS5284 := hS5254.tr g5280 (by decide +kernel) (by decide +kernel)
    have c5285 : I5277 a1 0 = v29 := (g5280.cell ta1 (by decide +kernel)).trans c5255
    have c5286 : I5277 a1 1 = v33 := (g5280.cell ta1 (by decide +kernel)).trans c5256
    have b5287 : 10 ≤ v5281.toInt ∧ v5281.toInt ≤ 240 := by omega
    clear p5282
    have ov5288 := w5283.over (by rw [c5267]; omega)
    obtain ⟨v5289, c5290⟩ : ∃ v, I5277 a0 9 = v := ⟨_, rfl⟩
    have b5291 := iv15_9 hS5284.1 ta0 c5290
    obtain ⟨v5292, c5293⟩ : ∃ v, I5277 a0 13 = v := ⟨_, rfl⟩
    obtain ⟨v5294, c5295⟩ : ∃ v, I5277 a0 14 = v := ⟨_, rfl⟩
    (try rw [c5290] at ov5288)
    (try rw [c5293] at ov5288)
    (try rw [c5295] at ov5288)
    (try rw [c5267] at ov5288)
    (try rw [c5270] at ov5288)
    (try rw [c5272] at ov5288)
    refine tr_istore_n dX12_readAlp_30 (by decide) (by decide) ?_
    refine tr_aload_n dX12_readAlp_31 rfl ?_
    refine tr_ldcS dX12_readAlp_32 ld12_253 ?_
    refine q_iconst dX12_readAlp_34 (by decide) ?_
    intro v5296 h5297
    refine q_iconst dX12_readAlp_35 (by decide) ?_
    intro v5298 h5299
    refine q_callVi hE (M' := mX12_readPart) (as := [_, _, _]) dX12_readAlp_36 lk12_249 inX12_readPart seX12_readPart myX12_readPart (by decide) ⟨by decide, by decide⟩ rfl (kR15 hS5284.1 ta0) (Nat.le_of_ble_eq_true rfl) rfl rfl (by decide) (by decide) (k_X12_readPart hS5284.1 ta0 (by decide)) ?_
    rintro v5304 cn' K' N' I5300 R5301 L5302 ⟨rfl, rfl, rfl, rfl, g5303, p5305, w5306, -⟩
    have hS5307 := hS5284.tr g5303 (by decide +kernel) (by decide +kernel)
    have c5308 : I5300 a1 0 = v29 := (g5303.cell ta1 (by decide +kernel)).trans c5285
    have c5309 : I5300 a1 1 = v33 := (g5303.cell ta1 (by decide +kernel)).trans c5286
    have b5310 : 1 ≤ v5304.toInt ∧ v5304.toInt ≤ 4 := by omega
    clear p5305
    have ov5311 := w5306.over (by rw [c5290]; omega)
    obtain ⟨v5312, c5313⟩ : ∃ v, I5300 a0 9 = v := ⟨_, rfl⟩
    have b5314 := iv15_9 hS5307.1 ta0 c5313
    obtain ⟨v5315, c5316⟩ : ∃ v, I5300 a0 13 = v := ⟨_, rfl⟩
    obtain ⟨v5317, c5318⟩ : ∃ v, I5300 a0 14 = v := ⟨_, rfl⟩
    (try rw [c5313] at ov5311)
    (try rw [c5316] at ov5311)
    (try rw [c5318] at ov5311)
    (try rw [c5290] at ov5311)
    (try rw [c5293] at ov5311)
    (try rw [c5295] at ov5311)
    refine tr_istore_n dX12_readAlp_39 (by decide) (by decide) ?_
    refine tr_aload_n dX12_readAlp_40 rfl ?_
    refine tr_ldcS dX12_readAlp_41 ld12_255 ?_
    refine q_callVv hE (M' := mX12_needs) (as := [_]) dX12_readAlp_43 lk12_157 inX12_needs seX12_needs myX12_needs (by decide) ⟨by decide, by decide⟩ rfl (kR15 hS5307.1 ta0) (Nat.le_of_ble_eq_true rfl) rfl rfl (by decide) (by decide) (k_X12_needs hS5307.1 ta0 (by decide)) ?_
    rintro cn' K' N' I5319 R5320 L5321 ⟨rfl, rfl, rfl, rfl, g5322, w5324, -⟩
    have hS5325 := hS5307.tr g5322 (by decide +kernel) (by decide +kernel)
    have c5326 : I5319 a1 0 = v29 := (g5322.cell ta1 (by decide +kernel)).trans c5308
    have c5327 : I5319 a1 1 = v33 := (g5322.cell ta1 (by decide +kernel)).trans c5309
    have ov5328 := w5324.over (by rw [c5313]; omega)
    obtain ⟨v5329, c5330⟩ : ∃ v, I5319 a0 9 = v := ⟨_, rfl⟩
    have b5331 := iv15_9 hS5325.1 ta0 c5330
    obtain ⟨v5332, c5333⟩ : ∃ v, I5319 a0 13 = v := ⟨_, rfl⟩
    obtain ⟨v5334, c5335⟩ : ∃ v, I5319 a0 14 = v := ⟨_, rfl⟩
    (try rw [c5330] at ov5328)
    (try rw [c5333] at ov5328)
    (try rw [c5335] at ov5328)
    (try rw [c5313] at ov5328)
    (try rw [c5316] at ov5328)
    (try rw [c5318] at ov5328)
    refine q_iconst dX12_readAlp_46 (by decide) ?_
    intro v5336 h5337
    refine tr_istore_n dX12_readAlp_47 (by decide) (by decide) ?_
    refine tr_iload_n dX12_readAlp_48 rfl ?_
    refine q_iconst dX12_readAlp_49 (by decide) ?_
    intro v5338 h5339
    refine q_icmp_ge 85 dX12_readAlp_50 (by decide) (fun h5340 => ?_) (fun h5340 => ?_)
    · skip
      exfalso; omega
    · skip
      refine tr_iload_n dX12_readAlp_53 rfl ?_
      refine q_if_le 63 dX12_readAlp_54 (by decide) (fun h5341 => ?_) (fun h5341 => ?_)
      · skip
        refine tr_aload_n dX12_readAlp_63 rfl ?_
        refine tr_getR dX12_readAlp_64 fl12_188 (kR15 hS5325.1 ta0) d2 ?_
        obtain ⟨a5342, d5343, ta5342⟩ := rf14_10 hW0 ta1
        refine tr_getR dX12_readAlp_67 fl12_260 (kR14 hS5325.1 ta1) d5343 ?_
        refine tr_iload_n dX12_readAlp_70 rfl ?_
        refine tr_aload_n dX12_readAlp_71 rfl ?_
        refine q_iconst dX12_readAlp_72 (by decide) ?_
        intro v5344 h5345
        refine q_bipush dX12_readAlp_73 (by decide +kernel) ?_
        intro v5346 h5347
        refine q_callVi hE (M' := mX12_readWhole) (as := [_, _]) dX12_readAlp_75 lk12_161 inX12_readWhole seX12_readWhole myX12_readWhole (by decide) ⟨by decide, by decide⟩ rfl (kR15 hS5325.1 ta0) (Nat.le_of_ble_eq_true rfl) rfl rfl (by decide) (by decide) (k_X12_readWhole hS5325.1 ta0) ?_
        rintro v5352 cn' K' N' I5348 R5349 L5350 ⟨rfl, rfl, rfl, rfl, g5351, p5353, w5354, -⟩
        have hS5355 := hS5325.tr g5351 (by decide +kernel) (by decide +kernel)
        have c5356 : I5348 a1 0 = v29 := (g5351.cell ta1 (by decide +kernel)).trans c5326
        have c5357 : I5348 a1 1 = v33 := (g5351.cell ta1 (by decide +kernel)).trans c5327
        have b5358 : 0 ≤ v5352.toInt ∧ v5352.toInt ≤ 99 := by omega
        clear p5353
        have ov5359 := w5354.over (by rw [c5330]; omega)
        obtain ⟨v5360, c5361⟩ : ∃ v, I5348 a0 9 = v := ⟨_, rfl⟩
        have b5362 := iv15_9 hS5355.1 ta0 c5361
        obtain ⟨v5363, c5364⟩ : ∃ v, I5348 a0 13 = v := ⟨_, rfl⟩
        obtain ⟨v5365, c5366⟩ : ∃ v, I5348 a0 14 = v := ⟨_, rfl⟩
        (try rw [c5361] at ov5359)
        (try rw [c5364] at ov5359)
        (try rw [c5366] at ov5359)
        (try rw [c5330] at ov5359)
        (try rw [c5333] at ov5359)
        (try rw [c5335] at ov5359)
        refine q_iast dX12_readAlp_78 (kR53 hS5355.1 ta5342) (ti_in (nR53 hS5355.1 ta5342) (by omega) (by omega)) hS5355 ta5342 (iokF rfl) rfl (by rfl) ?_
        intro I5367 hS5368 e5370 f5369
        have c5371 : I5367 a1 0 = v29 := (f5369 _ _ (fun q => by have z := ta1; rw [q.1, ta5342] at z; exact absurd z (by decide))).trans c5356
        have c5372 : I5367 a1 1 = v33 := (f5369 _ _ (fun q => by have z := ta1; rw [q.1, ta5342] at z; exact absurd z (by decide))).trans c5357
        have c5373 : I5367 a0 9 = v5360 := (f5369 _ _ (fun q => by have z := ta0; rw [q.1, ta5342] at z; exact absurd z (by decide))).trans c5361
        have c5374 : I5367 a0 13 = v5363 := (f5369 _ _ (fun q => by have z := ta0; rw [q.1, ta5342] at z; exact absurd z (by decide))).trans c5364
        have c5375 : I5367 a0 14 = v5365 := (f5369 _ _ (fun q => by have z := ta0; rw [q.1, ta5342] at z; exact absurd z (by decide))).trans c5366
        refine q_iincE dX12_readAlp_79 rfl (by decide) (by decide) (by intros; omega) ?_
        intro v5376 h5377
        refine tr_goto 48 dX12_readAlp_82 (by decide) ?_
        refine tr_iload_n dX12_readAlp_48 rfl ?_
        refine q_iconst dX12_readAlp_49 (by decide) ?_
        intro v5378 h5379
        refine q_icmp_ge 85 dX12_readAlp_50 (by decide) (fun h5380 => ?_) (fun h5380 => ?_)
        · skip
          exfalso; omega
        · skip
          refine tr_iload_n dX12_readAlp_53 rfl ?_
          refine q_if_le 63 dX12_readAlp_54 (by decide) (fun h5381 => ?_) (fun h5381 => ?_)
          · skip
            exfalso; omega
          · skip
            refine tr_aload_n dX12_readAlp_57 rfl ?_
            refine q_bipush dX12_readAlp_58 (by decide +kernel) ?_
            intro v5382 h5383
            refine q_callVv hE (M' := mX12_needsSign) (as := [_]) dX12_readAlp_60 lk12_257 inX12_needsSign seX12_needsSign myX12_needsSign (by decide) ⟨by decide, by decide⟩ rfl (kR15 hS5368.1 ta0) (Nat.le_of_ble_eq_true rfl) rfl rfl (by decide) (by decide) (k_X12_needsSign hS5368.1 ta0) ?_
            rintro cn' K' N' I5384 R5385 L5386 ⟨rfl, rfl, rfl, rfl, g5387, w5389, -⟩
            have hS5390 := hS5368.tr g5387 (by decide +kernel) (by decide +kernel)
            have c5391 : I5384 a1 0 = v29 := (g5387.cell ta1 (by decide +kernel)).trans c5371
            have c5392 : I5384 a1 1 = v33 := (g5387.cell ta1 (by decide +kernel)).trans c5372
            have ov5393 := w5389.over (by rw [c5373]; omega)
            obtain ⟨v5394, c5395⟩ : ∃ v, I5384 a0 9 = v := ⟨_, rfl⟩
            have b5396 := iv15_9 hS5390.1 ta0 c5395
            obtain ⟨v5397, c5398⟩ : ∃ v, I5384 a0 13 = v := ⟨_, rfl⟩
            obtain ⟨v5399, c5400⟩ : ∃ v, I5384 a0 14 = v := ⟨_, rfl⟩
            (try rw [c5395] at ov5393)
            (try rw [c5398] at ov5393)
            (try rw [c5400] at ov5393)
            (try rw [c5373] at ov5393)
            (try rw [c5374] at ov5393)
            (try rw [c5375] at ov5393)
            refine tr_aload_n dX12_readAlp_63 rfl ?_
            refine tr_getR dX12_readAlp_64 fl12_188 (kR15 hS5390.1 ta0) d2 ?_
            refine tr_getR dX12_readAlp_67 fl12_260 (kR14 hS5390.1 ta1) d5343 ?_
            refine tr_iload_n dX12_readAlp_70 rfl ?_
            refine tr_aload_n dX12_readAlp_71 rfl ?_
            refine q_iconst dX12_readAlp_72 (by decide) ?_
            intro v5401 h5402
            refine q_bipush dX12_readAlp_73 (by decide +kernel) ?_
            intro v5403 h5404
            refine q_callVi hE (M' := mX12_readWhole) (as := [_, _]) dX12_readAlp_75 lk12_161 inX12_readWhole seX12_readWhole myX12_readWhole (by decide) ⟨by decide, by decide⟩ rfl (kR15 hS5390.1 ta0) (Nat.le_of_ble_eq_true rfl) rfl rfl (by decide) (by decide) (k_X12_readWhole hS5390.1 ta0) ?_
            rintro v5409 cn' K' N' I5405 R5406 L5407 ⟨rfl, rfl, rfl, rfl, g5408, p5410, w5411, -⟩
            have hS5412 := hS5390.tr g5408 (by decide +kernel) (by decide +kernel)
            have c5413 : I5405 a1 0 = v29 := (g5408.cell ta1 (by decide +kernel)).trans c5391
            have c5414 : I5405 a1 1 = v33 := (g5408.cell ta1 (by decide +kernel)).trans c5392
            have b5415 : 0 ≤ v5409.toInt ∧ v5409.toInt ≤ 99 := by omega
            clear p5410
            have ov5416 := w5411.over (by rw [c5395]; omega)
            obtain ⟨v5417, c5418⟩ : ∃ v, I5405 a0 9 = v := ⟨_, rfl⟩
            have b5419 := iv15_9 hS5412.1 ta0 c5418
            obtain ⟨v5420, c5421⟩ : ∃ v, I5405 a0 13 = v := ⟨_, rfl⟩
            obtain ⟨v5422, c5423⟩ : ∃ v, I5405 a0 14 = v := ⟨_, rfl⟩
            (try rw [c5418] at ov5416)
            (try rw [c5421] at ov5416)
            (try rw [c5423] at ov5416)
            (try rw [c5395] at ov5416)
            (try rw [c5398] at ov5416)
            (try rw [c5400] at ov5416)
            refine q_iast dX12_readAlp_78 (kR53 hS5412.1 ta5342) (ti_in (nR53 hS5412.1 ta5342) (by omega) (by omega)) hS5412 ta5342 (iokF rfl) rfl (by rfl) ?_
            intro I5424 hS5425 e5427 f5426
            have c5428 : I5424 a1 0 = v29 := (f5426 _ _ (fun q => by have z := ta1; rw [q.1, ta5342] at z; exact absurd z (by decide))).trans c5413
            have c5429 : I5424 a1 1 = v33 := (f5426 _ _ (fun q => by have z := ta1; rw [q.1, ta5342] at z; exact absurd z (by decide))).trans c5414
            have c5430 : I5424 a0 9 = v5417 := (f5426 _ _ (fun q => by have z := ta0; rw [q.1, ta5342] at z; exact absurd z (by decide))).trans c5418
            have c5431 : I5424 a0 13 = v5420 := (f5426 _ _ (fun q => by have z := ta0; rw [q.1, ta5342] at z; exact absurd z (by decide))).trans c5421
            have c5432 : I5424 a0 14 = v5422 := (f5426 _ _ (fun q => by have z := ta0; rw [q.1, ta5342] at z; exact absurd z (by decide))).trans c5423
            refine q_iincE dX12_readAlp_79 rfl (by decide) (by decide) (by intros; omega) ?_
            intro v5433 h5434
            refine tr_goto 48 dX12_readAlp_82 (by decide) ?_
            refine tr_iload_n dX12_readAlp_48 rfl ?_
            refine q_iconst dX12_readAlp_49 (by decide) ?_
            intro v5435 h5436
            refine q_icmp_ge 85 dX12_readAlp_50 (by decide) (fun h5437 => ?_) (fun h5437 => ?_)
            · skip
              exfalso; omega
            · skip
              refine tr_iload_n dX12_readAlp_53 rfl ?_
              refine q_if_le 63 dX12_readAlp_54 (by decide) (fun h5438 => ?_) (fun h5438 => ?_)
              · skip
                exfalso; omega
              · skip
                refine tr_aload_n dX12_readAlp_57 rfl ?_
                refine q_bipush dX12_readAlp_58 (by decide +kernel) ?_
                intro v5439 h5440
                refine q_callVv hE (M' := mX12_needsSign) (as := [_]) dX12_readAlp_60 lk12_257 inX12_needsSign seX12_needsSign myX12_needsSign (by decide) ⟨by decide, by decide⟩ rfl (kR15 hS5425.1 ta0) (Nat.le_of_ble_eq_true rfl) rfl rfl (by decide) (by decide) (k_X12_needsSign hS5425.1 ta0) ?_
                rintro cn' K' N' I5441 R5442 L5443 ⟨rfl, rfl, rfl, rfl, g5444, w5446, -⟩
                have hS5447 := hS5425.tr g5444 (by decide +kernel) (by decide +kernel)
                have c5448 : I5441 a1 0 = v29 := (g5444.cell ta1 (by decide +kernel)).trans c5428
                have c5449 : I5441 a1 1 = v33 := (g5444.cell ta1 (by decide +kernel)).trans c5429
                have ov5450 := w5446.over (by rw [c5430]; omega)
                obtain ⟨v5451, c5452⟩ : ∃ v, I5441 a0 9 = v := ⟨_, rfl⟩
                have b5453 := iv15_9 hS5447.1 ta0 c5452
                obtain ⟨v5454, c5455⟩ : ∃ v, I5441 a0 13 = v := ⟨_, rfl⟩
                obtain ⟨v5456, c5457⟩ : ∃ v, I5441 a0 14 = v := ⟨_, rfl⟩
                (try rw [c5452] at ov5450)
                (try rw [c5455] at ov5450)
                (try rw [c5457] at ov5450)
                (try rw [c5430] at ov5450)
                (try rw [c5431] at ov5450)
                (try rw [c5432] at ov5450)
                refine tr_aload_n dX12_readAlp_63 rfl ?_
                refine tr_getR dX12_readAlp_64 fl12_188 (kR15 hS5447.1 ta0) d2 ?_
                refine tr_getR dX12_readAlp_67 fl12_260 (kR14 hS5447.1 ta1) d5343 ?_
                refine tr_iload_n dX12_readAlp_70 rfl ?_
                refine tr_aload_n dX12_readAlp_71 rfl ?_
                refine q_iconst dX12_readAlp_72 (by decide) ?_
                intro v5458 h5459
                refine q_bipush dX12_readAlp_73 (by decide +kernel) ?_
                intro v5460 h5461
                refine q_callVi hE (M' := mX12_readWhole) (as := [_, _]) dX12_readAlp_75 lk12_161 inX12_readWhole seX12_readWhole myX12_readWhole (by decide) ⟨by decide, by decide⟩ rfl (kR15 hS5447.1 ta0) (Nat.le_of_ble_eq_true rfl) rfl rfl (by decide) (by decide) (k_X12_readWhole hS5447.1 ta0) ?_
                rintro v5466 cn' K' N' I5462 R5463 L5464 ⟨rfl, rfl, rfl, rfl, g5465, p5467, w5468, -⟩
                have hS5469 := hS5447.tr g5465 (by decide +kernel) (by decide +kernel)
                have c5470 : I5462 a1 0 = v29 := (g5465.cell ta1 (by decide +kernel)).trans c5448
                have c5471 : I5462 a1 1 = v33 := (g5465.cell ta1 (by decide +kernel)).trans c5449
                have b5472 : 0 ≤ v5466.toInt ∧ v5466.toInt ≤ 99 := by omega
                clear p5467
                have ov5473 := w5468.over (by rw [c5452]; omega)
                obtain ⟨v5474, c5475⟩ : ∃ v, I5462 a0 9 = v := ⟨_, rfl⟩
                have b5476 := iv15_9 hS5469.1 ta0 c5475
                obtain ⟨v5477, c5478⟩ : ∃ v, I5462 a0 13 = v := ⟨_, rfl⟩
                obtain ⟨v5479, c5480⟩ : ∃ v, I5462 a0 14 = v := ⟨_, rfl⟩
                (try rw [c5475] at ov5473)
                (try rw [c5478] at ov5473)
                (try rw [c5480] at ov5473)
                (try rw [c5452] at ov5473)
                (try rw [c5455] at ov5473)
                (try rw [c5457] at ov5473)
                refine q_iast dX12_readAlp_78 (kR53 hS5469.1 ta5342) (ti_in (nR53 hS5469.1 ta5342) (by omega) (by omega)) hS5469 ta5342 (iokF rfl) rfl (by rfl) ?_
                intro I5481 hS5482 e5484 f5483
                have c5485 : I5481 a1 0 = v29 := (f5483 _ _ (fun q => by have z := ta1; rw [q.1, ta5342] at z; exact absurd z (by decide))).trans c5470
                have c5486 : I5481 a1 1 = v33 := (f5483 _ _ (fun q => by have z := ta1; rw [q.1, ta5342] at z; exact absurd z (by decide))).trans c5471
                have c5487 : I5481 a0 9 = v5474 := (f5483 _ _ (fun q => by have z := ta0; rw [q.1, ta5342] at z; exact absurd z (by decide))).trans c5475
                have c5488 : I5481 a0 13 = v5477 := (f5483 _ _ (fun q => by have z := ta0; rw [q.1, ta5342] at z; exact absurd z (by decide))).trans c5478
                have c5489 : I5481 a0 14 = v5479 := (f5483 _ _ (fun q => by have z := ta0; rw [q.1, ta5342] at z; exact absurd z (by decide))).trans c5480
                refine q_iincE dX12_readAlp_79 rfl (by decide) (by decide) (by intros; omega) ?_
                intro v5490 h5491
                refine tr_goto 48 dX12_readAlp_82 (by decide) ?_
                refine tr_iload_n dX12_readAlp_48 rfl ?_
                refine q_iconst dX12_readAlp_49 (by decide) ?_
                intro v5492 h5493
                refine q_icmp_ge 85 dX12_readAlp_50 (by decide) (fun h5494 => ?_) (fun h5494 => ?_)
                · skip
                  exfalso; omega
                · skip
                  refine tr_iload_n dX12_readAlp_53 rfl ?_
                  refine q_if_le 63 dX12_readAlp_54 (by decide) (fun h5495 => ?_) (fun h5495 => ?_)
                  · skip
                    exfalso; omega
                  · skip
                    refine tr_aload_n dX12_readAlp_57 rfl ?_
                    refine q_bipush dX12_readAlp_58 (by decide +kernel) ?_
                    intro v5496 h5497
                    refine q_callVv hE (M' := mX12_needsSign) (as := [_]) dX12_readAlp_60 lk12_257 inX12_needsSign seX12_needsSign myX12_needsSign (by decide) ⟨by decide, by decide⟩ rfl (kR15 hS5482.1 ta0) (Nat.le_of_ble_eq_true rfl) rfl rfl (by decide) (by decide) (k_X12_needsSign hS5482.1 ta0) ?_
                    rintro cn' K' N' I5498 R5499 L5500 ⟨rfl, rfl, rfl, rfl, g5501, w5503, -⟩
                    have hS5504 := hS5482.tr g5501 (by decide +kernel) (by decide +kernel)
                    have c5505 : I5498 a1 0 = v29 := (g5501.cell ta1 (by decide +kernel)).trans c5485
                    have c5506 : I5498 a1 1 = v33 := (g5501.cell ta1 (by decide +kernel)).trans c5486
                    have ov5507 := w5503.over (by rw [c5487]; omega)
                    obtain ⟨v5508, c5509⟩ : ∃ v, I5498 a0 9 = v := ⟨_, rfl⟩
                    have b5510 := iv15_9 hS5504.1 ta0 c5509
                    obtain ⟨v5511, c5512⟩ : ∃ v, I5498 a0 13 = v := ⟨_, rfl⟩
                    obtain ⟨v5513, c5514⟩ : ∃ v, I5498 a0 14 = v := ⟨_, rfl⟩
                    (try rw [c5509] at ov5507)
                    (try rw [c5512] at ov5507)
                    (try rw [c5514] at ov5507)
                    (try rw [c5487] at ov5507)
                    (try rw [c5488] at ov5507)
                    (try rw [c5489] at ov5507)
                    refine tr_aload_n dX12_readAlp_63 rfl ?_
                    refine tr_getR dX12_readAlp_64 fl12_188 (kR15 hS5504.1 ta0) d2 ?_
                    refine tr_getR dX12_readAlp_67 fl12_260 (kR14 hS5504.1 ta1) d5343 ?_
                    refine tr_iload_n dX12_readAlp_70 rfl ?_
                    refine tr_aload_n dX12_readAlp_71 rfl ?_
                    refine q_iconst dX12_readAlp_72 (by decide) ?_
                    intro v5515 h5516
                    refine q_bipush dX12_readAlp_73 (by decide +kernel) ?_
                    intro v5517 h5518
                    refine q_callVi hE (M' := mX12_readWhole) (as := [_, _]) dX12_readAlp_75 lk12_161 inX12_readWhole seX12_readWhole myX12_readWhole (by decide) ⟨by decide, by decide⟩ rfl (kR15 hS5504.1 ta0) (Nat.le_of_ble_eq_true rfl) rfl rfl (by decide) (by decide) (k_X12_readWhole hS5504.1 ta0) ?_
                    rintro v5523 cn' K' N' I5519 R5520 L5521 ⟨rfl, rfl, rfl, rfl, g5522, p5524, w5525, -⟩
                    have hS5526 := hS5504.tr g5522 (by decide +kernel) (by decide +kernel)
                    have c5527 : I5519 a1 0 = v29 := (g5522.cell ta1 (by decide +kernel)).trans c5505
                    have c5528 : I5519 a1 1 = v33 := (g5522.cell ta1 (by decide +kernel)).trans c5506
                    have b5529 : 0 ≤ v5523.toInt ∧ v5523.toInt ≤ 99 := by omega
                    clear p5524
                    have ov5530 := w5525.over (by rw [c5509]; omega)
                    obtain ⟨v5531, c5532⟩ : ∃ v, I5519 a0 9 = v := ⟨_, rfl⟩
                    have b5533 := iv15_9 hS5526.1 ta0 c5532
                    obtain ⟨v5534, c5535⟩ : ∃ v, I5519 a0 13 = v := ⟨_, rfl⟩
                    obtain ⟨v5536, c5537⟩ : ∃ v, I5519 a0 14 = v := ⟨_, rfl⟩
                    (try rw [c5532] at ov5530)
                    (try rw [c5535] at ov5530)
                    (try rw [c5537] at ov5530)
                    (try rw [c5509] at ov5530)
                    (try rw [c5512] at ov5530)
                    (try rw [c5514] at ov5530)
                    refine q_iast dX12_readAlp_78 (kR53 hS5526.1 ta5342) (ti_in (nR53 hS5526.1 ta5342) (by omega) (by omega)) hS5526 ta5342 (iokF rfl) rfl (by rfl) ?_
                    intro I5538 hS5539 e5541 f5540
                    have c5542 : I5538 a1 0 = v29 := (f5540 _ _ (fun q => by have z := ta1; rw [q.1, ta5342] at z; exact absurd z (by decide))).trans c5527
                    have c5543 : I5538 a1 1 = v33 := (f5540 _ _ (fun q => by have z := ta1; rw [q.1, ta5342] at z; exact absurd z (by decide))).trans c5528
                    have c5544 : I5538 a0 9 = v5531 := (f5540 _ _ (fun q => by have z := ta0; rw [q.1, ta5342] at z; exact absurd z (by decide))).trans c5532
                    have c5545 : I5538 a0 13 = v5534 := (f5540 _ _ (fun q => by have z := ta0; rw [q.1, ta5342] at z; exact absurd z (by decide))).trans c5535
                    have c5546 : I5538 a0 14 = v5536 := (f5540 _ _ (fun q => by have z := ta0; rw [q.1, ta5342] at z; exact absurd z (by decide))).trans c5537
                    refine q_iincE dX12_readAlp_79 rfl (by decide) (by decide) (by intros; omega) ?_
                    intro v5547 h5548
                    refine tr_goto 48 dX12_readAlp_82 (by decide) ?_
                    refine tr_iload_n dX12_readAlp_48 rfl ?_
                    refine q_iconst dX12_readAlp_49 (by decide) ?_
                    intro v5549 h5550
                    refine q_icmp_ge 85 dX12_readAlp_50 (by decide) (fun h5551 => ?_) (fun h5551 => ?_)
                    · skip
                      exfalso; omega
                    · skip
                      refine tr_iload_n dX12_readAlp_53 rfl ?_
                      refine q_if_le 63 dX12_readAlp_54 (by decide) (fun h5552 => ?_) (fun h5552 => ?_)
                      · skip
                        exfalso; omega
                      · skip
                        refine tr_aload_n dX12_readAlp_57 rfl ?_
                        refine q_bipush dX12_readAlp_58 (by decide +kernel) ?_
                        intro v5553 h5554
                        refine q_callVv hE (M' := mX12_needsSign) (as := [_]) dX12_readAlp_60 lk12_257 inX12_needsSign seX12_needsSign myX12_needsSign (by decide) ⟨by decide, by decide⟩ rfl (kR15 hS5539.1 ta0) (Nat.le_of_ble_eq_true rfl) rfl rfl (by decide) (by decide) (k_X12_needsSign hS5539.1 ta0) ?_
                        rintro cn' K' N' I5555 R5556 L5557 ⟨rfl, rfl, rfl, rfl, g5558, w5560, -⟩
                        have hS5561 := hS5539.tr g5558 (by decide +kernel) (by decide +kernel)
                        have c5562 : I5555 a1 0 = v29 := (g5558.cell ta1 (by decide +kernel)).trans c5542
                        have c5563 : I5555 a1 1 = v33 := (g5558.cell ta1 (by decide +kernel)).trans c5543
                        have ov5564 := w5560.over (by rw [c5544]; omega)
                        obtain ⟨v5565, c5566⟩ : ∃ v, I5555 a0 9 = v := ⟨_, rfl⟩
                        have b5567 := iv15_9 hS5561.1 ta0 c5566
                        obtain ⟨v5568, c5569⟩ : ∃ v, I5555 a0 13 = v := ⟨_, rfl⟩
                        obtain ⟨v5570, c5571⟩ : ∃ v, I5555 a0 14 = v := ⟨_, rfl⟩
                        (try rw [c5566] at ov5564)
                        (try rw [c5569] at ov5564)
                        (try rw [c5571] at ov5564)
                        (try rw [c5544] at ov5564)
                        (try rw [c5545] at ov5564)
                        (try rw [c5546] at ov5564)
                        refine tr_aload_n dX12_readAlp_63 rfl ?_
                        refine tr_getR dX12_readAlp_64 fl12_188 (kR15 hS5561.1 ta0) d2 ?_
                        refine tr_getR dX12_readAlp_67 fl12_260 (kR14 hS5561.1 ta1) d5343 ?_
                        refine tr_iload_n dX12_readAlp_70 rfl ?_
                        refine tr_aload_n dX12_readAlp_71 rfl ?_
                        refine q_iconst dX12_readAlp_72 (by decide) ?_
                        intro v5572 h5573
                        refine q_bipush dX12_readAlp_73 (by decide +kernel) ?_
                        intro v5574 h5575
                        refine q_callVi hE (M' := mX12_readWhole) (as := [_, _]) dX12_readAlp_75 lk12_161 inX12_readWhole seX12_readWhole myX12_readWhole (by decide) ⟨by decide, by decide⟩ rfl (kR15 hS5561.1 ta0) (Nat.le_of_ble_eq_true rfl) rfl rfl (by decide) (by decide) (k_X12_readWhole hS5561.1 ta0) ?_
                        rintro v5580 cn' K' N' I5576 R5577 L5578 ⟨rfl, rfl, rfl, rfl, g5579, p5581, w5582, -⟩
                        have hS5583 := hS5561.tr g5579 (by decide +kernel) (by decide +kernel)
                        have c5584 : I5576 a1 0 = v29 := (g5579.cell ta1 (by decide +kernel)).trans c5562
                        have c5585 : I5576 a1 1 = v33 := (g5579.cell ta1 (by decide +kernel)).trans c5563
                        have b5586 : 0 ≤ v5580.toInt ∧ v5580.toInt ≤ 99 := by omega
                        clear p5581
                        have ov5587 := w5582.over (by rw [c5566]; omega)
                        obtain ⟨v5588, c5589⟩ : ∃ v, I5576 a0 9 = v := ⟨_, rfl⟩
                        have b5590 := iv15_9 hS5583.1 ta0 c5589
                        obtain ⟨v5591, c5592⟩ : ∃ v, I5576 a0 13 = v := ⟨_, rfl⟩
                        obtain ⟨v5593, c5594⟩ : ∃ v, I5576 a0 14 = v := ⟨_, rfl⟩
                        (try rw [c5589] at ov5587)
                        (try rw [c5592] at ov5587)
                        (try rw [c5594] at ov5587)
                        (try rw [c5566] at ov5587)
                        (try rw [c5569] at ov5587)
                        (try rw [c5571] at ov5587)
                        refine q_iast dX12_readAlp_78 (kR53 hS5583.1 ta5342) (ti_in (nR53 hS5583.1 ta5342) (by omega) (by omega)) hS5583 ta5342 (iokF rfl) rfl (by rfl) ?_
                        intro I5595 hS5596 e5598 f5597
                        have c5599 : I5595 a1 0 = v29 := (f5597 _ _ (fun q => by have z := ta1; rw [q.1, ta5342] at z; exact absurd z (by decide))).trans c5584
                        have c5600 : I5595 a1 1 = v33 := (f5597 _ _ (fun q => by have z := ta1; rw [q.1, ta5342] at z; exact absurd z (by decide))).trans c5585
                        have c5601 : I5595 a0 9 = v5588 := (f5597 _ _ (fun q => by have z := ta0; rw [q.1, ta5342] at z; exact absurd z (by decide))).trans c5589
                        have c5602 : I5595 a0 13 = v5591 := (f5597 _ _ (fun q => by have z := ta0; rw [q.1, ta5342] at z; exact absurd z (by decide))).trans c5592
                        have c5603 : I5595 a0 14 = v5593 := (f5597 _ _ (fun q => by have z := ta0; rw [q.1, ta5342] at z; exact absurd z (by decide))).trans c5594
                        refine q_iincE dX12_readAlp_79 rfl (by decide) (by decide) (by intros; omega) ?_
                        intro v5604 h5605
                        refine tr_goto 48 dX12_readAlp_82 (by decide) ?_
                        refine tr_iload_n dX12_readAlp_48 rfl ?_
                        refine q_iconst dX12_readAlp_49 (by decide) ?_
                        intro v5606 h5607
                        refine q_icmp_ge 85 dX12_readAlp_50 (by decide) (fun h5608 => ?_) (fun h5608 => ?_)
                        · skip
                          refine tr_aload_n dX12_readAlp_85 rfl ?_
                          refine q_getI dX12_readAlp_86 fl12_99 (kR15 hS5596.1 ta0) c5601 ?_
                          refine q_iconst dX12_readAlp_89 (by decide) ?_
                          intro v5609 h5610
                          refine q_icmp_ne 94 dX12_readAlp_90 (by decide) (fun h5611 => ?_) (fun h5611 => ?_)
                          · skip
                            exfalso; omega
                          · skip
                            have eF := hF.eq
                            have eP := hP.eq
                            obtain ⟨v5612, c5613⟩ : ∃ v, I5595 a0 10 = v := ⟨_, rfl⟩
                            have b5614 := iv15_10 hS5596.1 ta0 c5613
                            obtain ⟨v5615, c5616⟩ : ∃ v, I5595 a0 11 = v := ⟨_, rfl⟩
                            obtain ⟨y5617, c5618⟩ : ∃ v, L5578 a0 15 = v := ⟨_, rfl⟩
                            obtain ⟨v5619, c5620⟩ : ∃ v, I5595 a0 12 = v := ⟨_, rfl⟩
                            obtain ⟨v5621, c5622⟩ : ∃ v, I5595 a0 8 = v := ⟨_, rfl⟩
                            have b5623 := iv15_8 hS5596.1 ta0 c5622
                            exact tr_vret hZ dX12_readAlp_93 rfl (by decide) (by decide) ⟨rfl, rfl, rfl, rfl, rfl, hS5596, (Or.inr (⟨(by first | done | omega), (by (try rw [c5601]); first | done | omega), (by (try rw [c5602]); first | done | omega), (by (try rw [c5603]); first | done | omega), trivial⟩)), trivial⟩
                        · skip
                          exfalso; omega
      · skip
        exfalso; omega
