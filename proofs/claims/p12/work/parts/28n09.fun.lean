def wik_X10_by : List Nat := [73, 81, 768, 769, 778, 834, 2303, 2367, 2431, 2495, 2559, 2623, 2687, 2751, 2815, 2879, 2943, 3007, 3071, 3135, 3199, 3263, 3327, 3391]
def wrk_X10_by : List Nat := [832, 833]
def Cs_X10_by (T : Nat → Nat) (I0 : cz_I) (R0 : cz_R) (a0 : Nat) (gX : Nat → Nat → Int) (gE : Nat → Nat → Int) (gc : Nat → Int) (x1 : Int32) (v : Int32) (I' : cz_I) (R' : cz_R) : Prop :=
  ((∀ b1, R0 a0 2 = some b1 → (x1.toInt < 0 ∨ x1.toInt ≥ (I0 b1 13).toInt)) ∧ (v.toInt = -1) ∧ True) ∨
  ((0 ≤ x1.toInt) ∧ (∀ b1, R0 a0 2 = some b1 → x1.toInt < (I0 b1 13).toInt) ∧ (∀ al nw, R0 a0 2 = some al → R0 a0 6 = some nw → v.toInt = byF (byG gX gE gc ((I0 al 3).toInt.toNat + (I0 nw 2).toInt.toNat) x1.toInt.toNat) (pw (gc 5)).toNat) ∧ True)
set_option maxHeartbeats 4000000 in
theorem fk_X10_by {l : Launch} {T : Nat → Nat} {cn : Nat} {K N : Nat → Nat} {I0 : cz_I} {R0 : cz_R} {L0 : cz_L} {d : Int} (hW0 : Wf T cn K N I0 R0 d) (gX : Nat → Nat → Int) (gE : Nat → Nat → Int) (gc : Nat → Int) {a0 : Nat} (ta0 : T a0 = 1) {x1 : Int32} (hX : EvQ I0 R0 a0 gX) (hK : SkQ I0 R0 a0 gX) (hD : DjS R0 a0) (hEa : ∀ al, R0 a0 2 = some al → CVa I0 R0 al gc gE) (hGd : GdE gc gE) (hMs : ∀ nw, R0 a0 6 = some nw → 0 ≤ (I0 nw 0).toInt ∧ (I0 nw 0).toInt ≤ 63) (hNg : NgQ I0 R0 a0 gX gE gc) (hDn : DjN R0 a0) (h1 : 1 ≤ gc 0 ∨ ∀ i, gc i = 0) (hGs : GdS gc gE) : ConE l mX10_by [.ref a0, .int x1] cn K N I0 R0 L0 (ca_i (fun v cn' K' N' I' R' L' => cn = cn' ∧ K = K' ∧ N = N' ∧ L0 = L' ∧ St T cn K N d wik_X10_by wrk_X10_by I0 R0 I' R' ∧ (SkQ I' R0 a0 gX) ∧ (NgQ I' R' a0 gX gE gc) ∧ Cs_X10_by T I0 R0 a0 gX gE gc x1 v I' R' ∧ True)) := by
  refine ConE.of (by decide +kernel) rfl (Nat.le_of_ble_eq_true rfl) rfl (fun X hX hZ hE => ?_)
  subst hX
  have hS0 : St T cn K N d wik_X10_by wrk_X10_by I0 R0 I0 R0 := St.rf0 hW0
  obtain ⟨a1, d2, ta1⟩ := rf1_2 hW0 ta0
  obtain ⟨v3, c4⟩ : ∃ v, I0 a1 13 = v := ⟨_, rfl⟩
  have b5 := iv2_13 hW0 ta1 c4
  obtain ⟨a6, d7, ta6⟩ := rf1_6 hW0 ta0
  obtain ⟨a8, d9, ta8⟩ := rf1_8 hW0 ta0
  obtain ⟨a10, d11, ta10⟩ := rf1_10 hW0 ta0
  obtain ⟨a12, d13, ta12⟩ := rf1_13 hW0 ta0
  obtain ⟨a14, d15, ta14⟩ := rf1_14 hW0 ta0
  obtain ⟨v16, c17⟩ : ∃ v, I0 a1 0 = v := ⟨_, rfl⟩
  have b18 := iv2_0 hW0 ta1 c17
  obtain ⟨v19, c20⟩ : ∃ v, I0 a1 1 = v := ⟨_, rfl⟩
  have b21 := iv2_1 hW0 ta1 c20
  obtain ⟨v22, c23⟩ : ∃ v, I0 a1 3 = v := ⟨_, rfl⟩
  have b24 := iv2_3 hW0 ta1 c23
  obtain ⟨v25, c26⟩ : ∃ v, I0 a1 5 = v := ⟨_, rfl⟩
  have b27 := iv2_5 hW0 ta1 c26
  obtain ⟨v28, c29⟩ : ∃ v, I0 a1 9 = v := ⟨_, rfl⟩
  have b30 := iv2_9 hW0 ta1 c29
  obtain ⟨v31, c32⟩ : ∃ v, I0 a1 11 = v := ⟨_, rfl⟩
  have b33 := iv2_11 hW0 ta1 c32
  obtain ⟨v34, c35⟩ : ∃ v, I0 a6 0 = v := ⟨_, rfl⟩
  obtain ⟨v36, c37⟩ : ∃ v, I0 a6 2 = v := ⟨_, rfl⟩
  have b38 := iv8_2 hW0 ta6 c37
  have hc39 := (hEa _ d2).ct
  rw [c17, c20, c26, c29, c32] at hc39
  have hc39m := hMs _ d7
  have hc39g := hGd.own hc39m gX (-1) ((I0 a1 3).toInt.toNat + (I0 a6 2).toInt.toNat)
  rw [c35] at hc39m
  have hc39z0 : nzc ((NgZ I0 a1 a6 gX gE gc)) 0 = gc 0 := rfl
  have hc39z1 : nzc ((NgZ I0 a1 a6 gX gE gc)) 1 = gc 1 := rfl
  have hc39z3 : nzc ((NgZ I0 a1 a6 gX gE gc)) 3 = gc 3 := rfl
  have hc39z4 : nzc ((NgZ I0 a1 a6 gX gE gc)) 4 = gc 4 := rfl
  have hc39z5 : nzc ((NgZ I0 a1 a6 gX gE gc)) 5 = gc 5 := rfl
  have hpc := pw_c (c := gc 5) (by omega) (by omega)
  refine tr_aload_n dX10_by_0 rfl ?_
  refine tr_iload_n dX10_by_1 rfl ?_
  refine q_callVi hE (M' := mX10_isSlice) (as := [_]) dX10_by_2 lk10_252 inX10_isSlice seX10_isSlice myX10_isSlice (by decide) ⟨by decide, by decide⟩ rfl (kR1 hS0.1 ta0) (Nat.le_of_ble_eq_true rfl) rfl rfl (by decide) (by decide) (fk_X10_isSlice hS0.1  ta0) ?_
  rintro v45 cn' K' N' I40 R41 L42 ⟨rfl, rfl, rfl, rfl, rfl, rfl, h46, p47, p48, -⟩
  have p49 := p47 _ d2
  clear p47
  rw [c4] at p49
  have p50 := p48 _ d2
  clear p48
  rw [c4] at p50
  refine q_if_ne 14 dX10_by_5 (by decide) (fun h51 => ?_) (fun h51 => ?_)
  · skip
    refine q_bipush dX10_by_14 (by decide +kernel) ?_
    intro v52 h53
    refine tr_istore_n dX10_by_16 (by decide) (by decide) ?_
    refine q_iconst dX10_by_17 (by decide) ?_
    intro v54 h55
    refine tr_istore_n dX10_by_18 (by decide) (by decide) ?_
    have lp74 : ∀ (fu : Nat) (ls : Nat → Option Value) (v56 : Int32) (v57 : Int32) (I62 : cz_I) (R63 : cz_R), ls 0 = some (.ref a0) → ls 1 = some (.int x1) → ls 2 = some (.int v56) → ls 3 = some (.int v57) → St T cn K N d wik_X10_by wrk_X10_by I0 R0 I62 R63 → 0 ≤ v57.toInt → v57.toInt ≤ 64 → v57.toInt ≤ (pw (gc 5)) → -2 ≤ v56.toInt → v56.toInt ≤ 63 → (v56.toInt = -2 ∨ 0 ≤ v56.toInt) → (v56.toInt = byF (byG gX gE gc ((I0 a1 3).toInt.toNat + (I0 a6 2).toInt.toNat) x1.toInt.toNat) v57.toInt.toNat) → (SkQ I62 R0 a0 gX) → (NgQ I62 R63 a0 gX gE gc) → (-v57.toInt + 2147483647).toNat < fu → Tr X mX10_by 19 ls [] cn K N I62 R63 L0 0 0 := by
      intro fu
      induction fu with
      | zero => intros; rename_i hz; exact absurd hz (Nat.not_lt_zero _)
      | succ fu ih74 =>
        intro ls v56 v57 I62 R63 hl58 hl59 hl60 hl61 hS64 g65 g66 g67 g68 g69 g70 rw71 rw72 rw73 hm74
        refine tr_iload_n dX10_by_19 hl61 ?_
        refine tr_aload_n dX10_by_20 hl58 ?_
        refine q_callVi hE (M' := mX10_allCalls) (as := []) dX10_by_21 lk10_263 inX10_allCalls seX10_allCalls myX10_allCalls (by decide) ⟨by decide, by decide⟩ rfl (kR1 hS64.1 ta0) (Nat.le_of_ble_eq_true rfl) rfl rfl (by decide) (by decide) (fk_X10_allCalls hS64.1  ta0) ?_
        rintro v81 cn' K' N' I76 R77 L78 ⟨rfl, rfl, rfl, rfl, rfl, rfl, rp82, -⟩
        have ht83 := rp82 _ ((hS64.rcell ta0 (by decide +kernel)).trans d2)
        rw [((hS64.cell ta1 (by decide +kernel)).trans c32)] at ht83
        have ht83b := pw_c (c := v31.toInt) (by omega) (by omega)
        rw [show v31.toInt = gc 5 by omega] at ht83 ht83b
        refine q_icmp_gt 91 dX10_by_24 (by decide) (fun h84 => ?_) (fun h84 => ?_)
        · skip
          refine tr_aload_n dX10_by_91 hl58 ?_
          refine tr_iload_n dX10_by_92 hl60 ?_
          refine q_callVi hE (M' := mX10_answered) (as := [_]) dX10_by_93 lk10_109 inX10_answered seX10_answered myX10_answered (by decide) ⟨by decide, by decide⟩ rfl (kR1 hS64.1 ta0) (Nat.le_of_ble_eq_true rfl) rfl rfl (by decide) (by decide) (fk_X10_answered hS64.1  ta0) ?_
          rintro v90 cn' K' N' I85 R86 L87 ⟨rfl, rfl, rfl, rfl, rfl, g88, p91, p92, -⟩
          have hS93 := hS64.tr g88 (by decide +kernel) (by decide +kernel)
          obtain ⟨v94, c95⟩ : ∃ v, I85 a0 17 = v := ⟨_, rfl⟩
          rw [c95] at p92
          exact tr_iret hZ dX10_by_96 rfl (by decide) (by decide) ⟨v90, rfl, rfl, rfl, rfl, rfl, hS93, (SkQ.st rw72 hW0 ta0 g88 (by decide +kernel) (by decide +kernel)), (NgQ.st rw73 hS64.1 ta0 g88 (by decide +kernel) (by decide +kernel) (by decide +kernel)), (by first | exact Or.inl ⟨(fun q0 z0 => by obtain rfl := Option.some.inj ((d2).symm.trans z0); (try rw [c4]); first | done | with_reducible assumption | omega), (by first | done | with_reducible assumption | omega), trivial⟩ | exact Or.inr (⟨(by first | done | with_reducible assumption | omega), (fun q0 z0 => by obtain rfl := Option.some.inj ((d2).symm.trans z0); (try rw [c4]); first | done | with_reducible assumption | omega), (fun al nw h2 h6 => by obtain rfl := Option.some.inj (d2.symm.trans h2); obtain rfl := Option.some.inj (d7.symm.trans h6); have e := rw71; rw [show (pw (gc 5)).toNat = v57.toInt.toNat from congrArg Int.toNat (by omega)]; omega), trivial⟩)), trivial⟩
        · skip
          refine tr_iload_n dX10_by_27 hl60 ?_
          refine q_bipush dX10_by_28 (by decide +kernel) ?_
          intro v96 h97
          refine q_icmp_eq 44 dX10_by_30 (by decide) (fun h98 => ?_) (fun h98 => ?_)
          · skip
            refine tr_aload_n dX10_by_44 hl58 ?_
            refine tr_getR dX10_by_45 fl10_68 (kR1 hS64.1 ta0) ((hS64.rcell ta0 (by decide +kernel)).trans d15) ?_
            refine tr_aload_n dX10_by_48 hl58 ?_
            refine tr_getR dX10_by_49 fl10_16 (kR1 hS64.1 ta0) ((hS64.rcell ta0 (by decide +kernel)).trans d2) ?_
            refine tr_aload_n dX10_by_52 hl58 ?_
            refine q_callVr hE (M' := mX10_presentSky) (as := []) dX10_by_53 lk10_119 inX10_presentSky seX10_presentSky myX10_presentSky (by decide) ⟨by decide, by decide⟩ rfl (kR1 hS64.1 ta0) (Nat.le_of_ble_eq_true rfl) rfl rfl (by decide) (by decide) (fk_X10_presentSky hS64.1 (gX) (gE) (gc) ta0 (EvQ.rc (EvQ.st hX hW0 ta0 hS64 (by decide +kernel)) hW0 ta0 (R13 hS64 (by decide +kernel))) (SkQ.rc rw72 hW0 ta0 (R13 hS64 (by decide +kernel))) (DjS.rc hD hW0 ta0 (R13 hS64 (by decide +kernel))) (fun al ha => by have h0 := (R13 hS64 (by decide +kernel) a0 2 (by rw [ta0]; decide)).symm.trans ha; exact (hEa al h0).gs hW0 (hW0.rs ta0 rfl rfl h0) hS64 (by decide +kernel) (by decide +kernel)) hGd (fun nw hn => by have h0 := (R13 hS64 (by decide +kernel) a0 6 (by rw [ta0]; decide)).symm.trans hn; rw [hS64.cell (hW0.rs ta0 rfl rfl h0 : T nw = 8) (by decide +kernel)]; exact hMs nw h0) rw73 (DjN.st hDn hW0 ta0 hS64 (by decide +kernel) (by decide +kernel)) h1) ?_
            rintro a104 cn' K' N' I99 R100 L101 ⟨rfl, rfl, rfl, rfl, rfl, g102, ta104, p105, rp106, rp107, rp108, rp109, rp110, -⟩
            have hS111 := hS64.tr g102 (by decide +kernel) (by decide +kernel)
            obtain ⟨v112, c113⟩ : ∃ v, I99 a0 9 = v := ⟨_, rfl⟩
            have b114 := iv1_9 hS111.1 ta0 c113
            rw [c113] at p105
            refine tr_iload_n dX10_by_56 hl61 ?_
            refine tr_aload_n dX10_by_57 hl58 ?_
            refine q_callVi hE (M' := mX10_allTurners) (as := []) dX10_by_58 lk10_184 inX10_allTurners seX10_allTurners myX10_allTurners (by decide) ⟨by decide, by decide⟩ rfl (kR1 hS111.1 ta0) (Nat.le_of_ble_eq_true rfl) rfl rfl (by decide) (by decide) (fk_X10_allTurners hS111.1  ta0) ?_
            rintro v120 cn' K' N' I115 R116 L117 ⟨rfl, rfl, rfl, rfl, rfl, rfl, rp121, -⟩
            have ht122 := rp121 _ ((hS111.rcell ta0 (by decide +kernel)).trans d2)
            rw [((hS111.cell ta1 (by decide +kernel)).trans c29)] at ht122
            have ht122b := pw_all (c := v28.toInt) (by omega) (by omega)
            obtain rfl : a8 = a104 := Option.some.inj (((hS64.rcell ta0 (by decide +kernel)).trans d9).symm.trans rp106)
            have hz123m : nzM (mkZ gX (-1) ((I0 a1 3).toInt.toNat + (I0 a6 2).toInt.toNat) gE gc v57.toInt v120.toInt) = v57.toInt := rfl
            have hz123w : nzW (mkZ gX (-1) ((I0 a1 3).toInt.toNat + (I0 a6 2).toInt.toNat) gE gc v57.toInt v120.toInt) = v120.toInt := rfl
            have kw124k : SkW I99 R63 a0 gX := (SkQ.rc (SkQ.of (SkW.rc rp107 hS64.1 ta0 (fun a j q => (R13 hS64 (by decide +kernel) a j q).symm))) hW0 ta0 (R13 hS111 (by decide +kernel))) (by rw [c113]; omega)
            have kw124t : StW I99 R63 a0 gX gE gc := rp110.1 (by rw [c113]; omega)
            have kw124 : SkZ I99 R63 a8 (mkZ gX (-1) ((I99 a1 3).toInt.toNat + (I99 a6 2).toInt.toNat) gE gc v57.toInt v120.toInt) := SkZ.cl (SkZ.own kw124k kw124t ((hS111.rcell ta0 (by decide +kernel)).trans d9) ((hS111.rcell ta0 (by decide +kernel)).trans d2) ((hS111.rcell ta0 (by decide +kernel)).trans d7) ((hEa _ d2).gs hW0 ta1 hS111 (by decide +kernel) (by decide +kernel)) hGd)
            rw [hS111.cell ta1 (by decide +kernel), hS111.cell ta6 (by decide +kernel)] at kw124
            refine q_callVv hE (M' := mX5_play) (as := [_, _, _, _]) dX10_by_61 lk10_188 inX5_play seX5_play myX5_play (by decide) ⟨by decide, by decide⟩ rfl (kR13 hS111.1 ta14) (Nat.le_of_ble_eq_true rfl) rfl rfl (by decide) (by decide) (fk_X5_play hS111.1 ((mkZ gX (-1) ((I0 a1 3).toInt.toNat + (I0 a6 2).toInt.toNat) gE gc v57.toInt v120.toInt)) ta14 ta1 ta8 (by omega) (by omega) ((hEa _ d2).gs hW0 ta1 hS111 (by decide +kernel) (by decide +kernel)) kw124 (hGd _ _ _ _ _ (by omega) (by omega)) (by first | done | with_reducible assumption | omega) (by first | done | with_reducible assumption | omega)) ?_
            rintro cn' K' N' I125 R126 L127 ⟨rfl, rfl, rfl, rfl, g128, rp131, rp132, rp133, rp134, rp135, rp136, -⟩
            have hS137 := hS111.tr g128 (by decide +kernel) (by decide +kernel)
            have c138 : I125 a0 9 = v112 := (g128.cell ta0 (by decide +kernel)).trans c113
            have hp139P : NgP I125 R126 a14 (mkZ gX (-1) ((I0 a1 3).toInt.toNat + (I0 a6 2).toInt.toNat) gE gc v57.toInt v120.toInt) := NgP.mk ((hEa _ d2).gs hW0 ta1 hS111 (by decide +kernel) (by decide +kernel)) kw124 g128 hS111.1 ta14 ta1 ta8 rp131 rp132 (congrArg Int32.toInt rp133) (by decide +kernel) (by decide +kernel)
            have hp139R : NgR I125 R126 a14 (mkZ gX (-1) ((I0 a1 3).toInt.toNat + (I0 a6 2).toInt.toNat) gE gc v57.toInt v120.toInt) (gc 0).toNat := rp134.rc (fun k k1 k2 => R13w g128 (by decide +kernel) ta14 k1 k2)
            have hp139G : GdN (mkZ gX (-1) ((I0 a1 3).toInt.toNat + (I0 a6 2).toInt.toNat) gE gc v57.toInt v120.toInt) := hGd _ _ _ _ _ (by omega) (by omega)
            refine tr_aload_n dX10_by_64 hl58 ?_
            refine tr_getR dX10_by_65 fl10_68 (kR1 hS137.1 ta0) ((hS137.rcell ta0 (by decide +kernel)).trans d15) ?_
            refine tr_aload_n dX10_by_68 hl58 ?_
            refine tr_getR dX10_by_69 fl10_16 (kR1 hS137.1 ta0) ((hS137.rcell ta0 (by decide +kernel)).trans d2) ?_
            obtain ⟨a140, d141, ta140⟩ := rf2_14 hW0 ta1
            refine tr_getR dX10_by_72 fl10_255 (kR2 hS137.1 ta1) ((hS137.rcell ta1 (by decide +kernel)).trans d141) ?_
            refine tr_iload_n dX10_by_75 hl59 ?_
            obtain ⟨a142, d143, ta142⟩ := rf23 hS137.1 ta140 (j := x1.toNatClampNeg) (ti_lt (by omega) (by omega))
            refine tr_aald dX10_by_76 (kR23 hS137.1 ta140) (by decide) (by decide) (ti_in (nR23 hS137.1 ta140) (by omega) (by omega)) d143 ?_
            have h6144 : (I125 a1 13).toInt = gc 6 := ((hEa _ d2).gs hW0 ta1 hS137 (by decide +kernel) (by decide +kernel)).2.1 6 (by omega)
            rw [((hS137.cell ta1 (by decide +kernel)).trans c4)] at h6144
            have h6144z : nzc (mkZ gX (-1) ((I0 a1 3).toInt.toNat + (I0 a6 2).toInt.toNat) gE gc v57.toInt v120.toInt) 6 = gc 6 := rfl
            refine q_callVi hE (M' := mX5_cheesesWithVeins) (as := [_]) dX10_by_77 lk10_259 inX5_cheesesWithVeins seX5_cheesesWithVeins myX5_cheesesWithVeins (by decide) ⟨by decide, by decide⟩ rfl (kR13 hS137.1 ta14) (Nat.le_of_ble_eq_true rfl) rfl rfl (by decide) (by decide) (fk_X5_cheesesWithVeins hS137.1 ((mkZ gX (-1) ((I0 a1 3).toInt.toNat + (I0 a6 2).toInt.toNat) gE gc v57.toInt v120.toInt)) (x1.toInt.toNat) ta14 ta142 hp139P hp139G hp139R (slH ((hEa _ d2).gs hW0 ta1 hS137 (by decide +kernel) (by decide +kernel)) hGs ((hS137.rcell ta1 (by decide +kernel)).trans d141) (by omega) (by omega) d143)) ?_
            rintro v150 cn' K' N' I145 R146 L147 ⟨rfl, rfl, rfl, rfl, rfl, rfl, rp151, -⟩
            have hw152 := rp151
            have hw152b := And.intro hw152.1 hw152.2.1
            refine q_if_eq 85 dX10_by_80 (by decide) (fun h153 => ?_) (fun h153 => ?_)
            · skip
              refine q_iincE dX10_by_85 hl61 (by decide) (by decide) (by intros; omega) ?_
              intro v154 h155
              refine tr_goto 19 dX10_by_88 (by decide) ?_
              exact ih74 _ v56 v154 I125 R126 hl58 hl59 hl60 rfl hS137 (by omega) (by omega) (by omega) (by omega) (by omega) (by omega) (by rw [show v154.toInt.toNat = v57.toInt.toNat + 1 by omega]; have ez : (mkZ gX (-1) ((I0 a1 3).toInt.toNat + (I0 a6 2).toInt.toNat) gE gc v57.toInt v120.toInt) = mkZ gX (-1) ((I0 a1 3).toInt.toNat + (I0 a6 2).toInt.toNat) gE gc ((v57.toInt.toNat : Nat) : Int) (pw (gc 4) - 1) := (by rw [show ((v57.toInt.toNat : Nat) : Int) = v57.toInt by omega, ← hc39.2.2.2.1, ← ht122]); have w := B8.nz hw152 (by show gc 3 ≤ 8; omega); rw [ez] at w; exact byF.no rw71 (Or.inr (fun y => w.mpr y (by omega))) (by omega)) (SkQ.st (SkQ.of (SkW.rc rp107 hS64.1 ta0 (fun a j q => (R13 hS64 (by decide +kernel) a j q).symm))) hW0 ta0 g128 (by decide +kernel) (by decide +kernel)) (NgQ.fn rp110 hS64.1 ta0 g128 (DjN.st hDn hW0 ta0 hS111 (by decide +kernel) (by decide +kernel)) ((R13 hS111 (by decide +kernel) a0 14 (by rw [ta0]; decide)).trans d15) rp135 rp136 (by decide +kernel) (by decide +kernel) (by decide +kernel)) (by omega)
            · skip
              refine tr_iload_n dX10_by_83 hl61 ?_
              refine tr_istore_n dX10_by_84 (by decide) (by decide) ?_
              refine q_iincE dX10_by_85 hl61 (by decide) (by decide) (by intros; omega) ?_
              intro v156 h157
              refine tr_goto 19 dX10_by_88 (by decide) ?_
              exact ih74 _ v57 v156 I125 R126 hl58 hl59 rfl rfl hS137 (by omega) (by omega) (by omega) (by omega) (by omega) (by omega) (by rw [show v156.toInt.toNat = v57.toInt.toNat + 1 by omega]; have ez : (mkZ gX (-1) ((I0 a1 3).toInt.toNat + (I0 a6 2).toInt.toNat) gE gc v57.toInt v120.toInt) = mkZ gX (-1) ((I0 a1 3).toInt.toNat + (I0 a6 2).toInt.toNat) gE gc ((v57.toInt.toNat : Nat) : Int) (pw (gc 4) - 1) := (by rw [show ((v57.toInt.toNat : Nat) : Int) = v57.toInt by omega, ← hc39.2.2.2.1, ← ht122]); have w := B8.nz hw152 (by show gc 3 ≤ 8; omega); rw [ez] at w; exact byF.up rw71 (by rw [show ((v57.toInt.toNat : Nat) : Int) = v57.toInt by omega]; omega) (w.mp (by omega)) (by omega)) (SkQ.st (SkQ.of (SkW.rc rp107 hS64.1 ta0 (fun a j q => (R13 hS64 (by decide +kernel) a j q).symm))) hW0 ta0 g128 (by decide +kernel) (by decide +kernel)) (NgQ.fn rp110 hS64.1 ta0 g128 (DjN.st hDn hW0 ta0 hS111 (by decide +kernel) (by decide +kernel)) ((R13 hS111 (by decide +kernel) a0 14 (by rw [ta0]; decide)).trans d15) rp135 rp136 (by decide +kernel) (by decide +kernel) (by decide +kernel)) (by omega)
          · skip
            refine tr_iload_n dX10_by_33 hl61 ?_
            refine q_callSi hE (M' := mJ6_bitCount_0f7a4) (as := [_]) dX10_by_34 lk10_247 inJ6_bitCount_0f7a4 myJ6_bitCount_0f7a4 ⟨by decide, by decide⟩ rfl (Nat.le_of_ble_eq_true rfl) rfl rfl (by decide) (by decide) (fk_J6_bitCount_0f7a4 hS64.1  (by omega)) ?_
            rintro v163 cn' K' N' I158 R159 L160 ⟨rfl, rfl, rfl, rfl, rfl, rfl, rp164, -⟩
            have pcv163 := pcI_b (x := v57.toInt)
            rw [← rp164] at pcv163
            refine tr_iload_n dX10_by_37 hl60 ?_
            refine q_callSi hE (M' := mJ6_bitCount_0f7a4) (as := [_]) dX10_by_38 lk10_247 inJ6_bitCount_0f7a4 myJ6_bitCount_0f7a4 ⟨by decide, by decide⟩ rfl (Nat.le_of_ble_eq_true rfl) rfl rfl (by decide) (by decide) (fk_J6_bitCount_0f7a4 hS64.1  (by omega)) ?_
            rintro v170 cn' K' N' I165 R166 L167 ⟨rfl, rfl, rfl, rfl, rfl, rfl, rp171, -⟩
            have pcv170 := pcI_b (x := v56.toInt)
            rw [← rp171] at pcv170
            refine q_icmp_ge 85 dX10_by_41 (by decide) (fun h172 => ?_) (fun h172 => ?_)
            · skip
              refine q_iincE dX10_by_85 hl61 (by decide) (by decide) (by intros; omega) ?_
              intro v173 h174
              refine tr_goto 19 dX10_by_88 (by decide) ?_
              exact ih74 _ v56 v173 I62 R63 hl58 hl59 hl60 rfl hS64 (by omega) (by omega) (by omega) (by omega) (by omega) (by omega) (by rw [show v173.toInt.toNat = v57.toInt.toNat + 1 by omega]; exact byF.no rw71 (Or.inl (by rw [show ((v57.toInt.toNat : Nat) : Int) = v57.toInt by omega]; have p0 := rp164; have p1 := rp171; omega)) (by omega)) rw72 rw73 (by omega)
            · skip
              refine tr_aload_n dX10_by_44 hl58 ?_
              refine tr_getR dX10_by_45 fl10_68 (kR1 hS64.1 ta0) ((hS64.rcell ta0 (by decide +kernel)).trans d15) ?_
              refine tr_aload_n dX10_by_48 hl58 ?_
              refine tr_getR dX10_by_49 fl10_16 (kR1 hS64.1 ta0) ((hS64.rcell ta0 (by decide +kernel)).trans d2) ?_
              refine tr_aload_n dX10_by_52 hl58 ?_
              refine q_callVr hE (M' := mX10_presentSky) (as := []) dX10_by_53 lk10_119 inX10_presentSky seX10_presentSky myX10_presentSky (by decide) ⟨by decide, by decide⟩ rfl (kR1 hS64.1 ta0) (Nat.le_of_ble_eq_true rfl) rfl rfl (by decide) (by decide) (fk_X10_presentSky hS64.1 (gX) (gE) (gc) ta0 (EvQ.rc (EvQ.st hX hW0 ta0 hS64 (by decide +kernel)) hW0 ta0 (R13 hS64 (by decide +kernel))) (SkQ.rc rw72 hW0 ta0 (R13 hS64 (by decide +kernel))) (DjS.rc hD hW0 ta0 (R13 hS64 (by decide +kernel))) (fun al ha => by have h0 := (R13 hS64 (by decide +kernel) a0 2 (by rw [ta0]; decide)).symm.trans ha; exact (hEa al h0).gs hW0 (hW0.rs ta0 rfl rfl h0) hS64 (by decide +kernel) (by decide +kernel)) hGd (fun nw hn => by have h0 := (R13 hS64 (by decide +kernel) a0 6 (by rw [ta0]; decide)).symm.trans hn; rw [hS64.cell (hW0.rs ta0 rfl rfl h0 : T nw = 8) (by decide +kernel)]; exact hMs nw h0) rw73 (DjN.st hDn hW0 ta0 hS64 (by decide +kernel) (by decide +kernel)) h1) ?_
              rintro a180 cn' K' N' I175 R176 L177 ⟨rfl, rfl, rfl, rfl, rfl, g178, ta180, p181, rp182, rp183, rp184, rp185, rp186, -⟩
              have hS187 := hS64.tr g178 (by decide +kernel) (by decide +kernel)
              obtain ⟨v188, c189⟩ : ∃ v, I175 a0 9 = v := ⟨_, rfl⟩
              have b190 := iv1_9 hS187.1 ta0 c189
              rw [c189] at p181
              refine tr_iload_n dX10_by_56 hl61 ?_
              refine tr_aload_n dX10_by_57 hl58 ?_
              refine q_callVi hE (M' := mX10_allTurners) (as := []) dX10_by_58 lk10_184 inX10_allTurners seX10_allTurners myX10_allTurners (by decide) ⟨by decide, by decide⟩ rfl (kR1 hS187.1 ta0) (Nat.le_of_ble_eq_true rfl) rfl rfl (by decide) (by decide) (fk_X10_allTurners hS187.1  ta0) ?_
              rintro v196 cn' K' N' I191 R192 L193 ⟨rfl, rfl, rfl, rfl, rfl, rfl, rp197, -⟩
              have ht198 := rp197 _ ((hS187.rcell ta0 (by decide +kernel)).trans d2)
              rw [((hS187.cell ta1 (by decide +kernel)).trans c29)] at ht198
              have ht198b := pw_all (c := v28.toInt) (by omega) (by omega)
              obtain rfl : a8 = a180 := Option.some.inj (((hS64.rcell ta0 (by decide +kernel)).trans d9).symm.trans rp182)
              have hz199m : nzM (mkZ gX (-1) ((I0 a1 3).toInt.toNat + (I0 a6 2).toInt.toNat) gE gc v57.toInt v196.toInt) = v57.toInt := rfl
              have hz199w : nzW (mkZ gX (-1) ((I0 a1 3).toInt.toNat + (I0 a6 2).toInt.toNat) gE gc v57.toInt v196.toInt) = v196.toInt := rfl
              have kw200k : SkW I175 R63 a0 gX := (SkQ.rc (SkQ.of (SkW.rc rp183 hS64.1 ta0 (fun a j q => (R13 hS64 (by decide +kernel) a j q).symm))) hW0 ta0 (R13 hS187 (by decide +kernel))) (by rw [c189]; omega)
              have kw200t : StW I175 R63 a0 gX gE gc := rp186.1 (by rw [c189]; omega)
              have kw200 : SkZ I175 R63 a8 (mkZ gX (-1) ((I175 a1 3).toInt.toNat + (I175 a6 2).toInt.toNat) gE gc v57.toInt v196.toInt) := SkZ.cl (SkZ.own kw200k kw200t ((hS187.rcell ta0 (by decide +kernel)).trans d9) ((hS187.rcell ta0 (by decide +kernel)).trans d2) ((hS187.rcell ta0 (by decide +kernel)).trans d7) ((hEa _ d2).gs hW0 ta1 hS187 (by decide +kernel) (by decide +kernel)) hGd)
              rw [hS187.cell ta1 (by decide +kernel), hS187.cell ta6 (by decide +kernel)] at kw200
              refine q_callVv hE (M' := mX5_play) (as := [_, _, _, _]) dX10_by_61 lk10_188 inX5_play seX5_play myX5_play (by decide) ⟨by decide, by decide⟩ rfl (kR13 hS187.1 ta14) (Nat.le_of_ble_eq_true rfl) rfl rfl (by decide) (by decide) (fk_X5_play hS187.1 ((mkZ gX (-1) ((I0 a1 3).toInt.toNat + (I0 a6 2).toInt.toNat) gE gc v57.toInt v196.toInt)) ta14 ta1 ta8 (by omega) (by omega) ((hEa _ d2).gs hW0 ta1 hS187 (by decide +kernel) (by decide +kernel)) kw200 (hGd _ _ _ _ _ (by omega) (by omega)) (by first | done | with_reducible assumption | omega) (by first | done | with_reducible assumption | omega)) ?_
              rintro cn' K' N' I201 R202 L203 ⟨rfl, rfl, rfl, rfl, g204, rp207, rp208, rp209, rp210, rp211, rp212, -⟩
              have hS213 := hS187.tr g204 (by decide +kernel) (by decide +kernel)
              have c214 : I201 a0 9 = v188 := (g204.cell ta0 (by decide +kernel)).trans c189
              have hp215P : NgP I201 R202 a14 (mkZ gX (-1) ((I0 a1 3).toInt.toNat + (I0 a6 2).toInt.toNat) gE gc v57.toInt v196.toInt) := NgP.mk ((hEa _ d2).gs hW0 ta1 hS187 (by decide +kernel) (by decide +kernel)) kw200 g204 hS187.1 ta14 ta1 ta8 rp207 rp208 (congrArg Int32.toInt rp209) (by decide +kernel) (by decide +kernel)
              have hp215R : NgR I201 R202 a14 (mkZ gX (-1) ((I0 a1 3).toInt.toNat + (I0 a6 2).toInt.toNat) gE gc v57.toInt v196.toInt) (gc 0).toNat := rp210.rc (fun k k1 k2 => R13w g204 (by decide +kernel) ta14 k1 k2)
              have hp215G : GdN (mkZ gX (-1) ((I0 a1 3).toInt.toNat + (I0 a6 2).toInt.toNat) gE gc v57.toInt v196.toInt) := hGd _ _ _ _ _ (by omega) (by omega)
              refine tr_aload_n dX10_by_64 hl58 ?_
              refine tr_getR dX10_by_65 fl10_68 (kR1 hS213.1 ta0) ((hS213.rcell ta0 (by decide +kernel)).trans d15) ?_
              refine tr_aload_n dX10_by_68 hl58 ?_
              refine tr_getR dX10_by_69 fl10_16 (kR1 hS213.1 ta0) ((hS213.rcell ta0 (by decide +kernel)).trans d2) ?_
              obtain ⟨a216, d217, ta216⟩ := rf2_14 hW0 ta1
              refine tr_getR dX10_by_72 fl10_255 (kR2 hS213.1 ta1) ((hS213.rcell ta1 (by decide +kernel)).trans d217) ?_
              refine tr_iload_n dX10_by_75 hl59 ?_
              obtain ⟨a218, d219, ta218⟩ := rf23 hS213.1 ta216 (j := x1.toNatClampNeg) (ti_lt (by omega) (by omega))
              refine tr_aald dX10_by_76 (kR23 hS213.1 ta216) (by decide) (by decide) (ti_in (nR23 hS213.1 ta216) (by omega) (by omega)) d219 ?_
              have h6220 : (I201 a1 13).toInt = gc 6 := ((hEa _ d2).gs hW0 ta1 hS213 (by decide +kernel) (by decide +kernel)).2.1 6 (by omega)
              rw [((hS213.cell ta1 (by decide +kernel)).trans c4)] at h6220
              have h6220z : nzc (mkZ gX (-1) ((I0 a1 3).toInt.toNat + (I0 a6 2).toInt.toNat) gE gc v57.toInt v196.toInt) 6 = gc 6 := rfl
              refine q_callVi hE (M' := mX5_cheesesWithVeins) (as := [_]) dX10_by_77 lk10_259 inX5_cheesesWithVeins seX5_cheesesWithVeins myX5_cheesesWithVeins (by decide) ⟨by decide, by decide⟩ rfl (kR13 hS213.1 ta14) (Nat.le_of_ble_eq_true rfl) rfl rfl (by decide) (by decide) (fk_X5_cheesesWithVeins hS213.1 ((mkZ gX (-1) ((I0 a1 3).toInt.toNat + (I0 a6 2).toInt.toNat) gE gc v57.toInt v196.toInt)) (x1.toInt.toNat) ta14 ta218 hp215P hp215G hp215R (slH ((hEa _ d2).gs hW0 ta1 hS213 (by decide +kernel) (by decide +kernel)) hGs ((hS213.rcell ta1 (by decide +kernel)).trans d217) (by omega) (by omega) d219)) ?_
              rintro v226 cn' K' N' I221 R222 L223 ⟨rfl, rfl, rfl, rfl, rfl, rfl, rp227, -⟩
              have hw228 := rp227
              have hw228b := And.intro hw228.1 hw228.2.1
              refine q_if_eq 85 dX10_by_80 (by decide) (fun h229 => ?_) (fun h229 => ?_)
              · skip
                refine q_iincE dX10_by_85 hl61 (by decide) (by decide) (by intros; omega) ?_
                intro v230 h231
                refine tr_goto 19 dX10_by_88 (by decide) ?_
                exact ih74 _ v56 v230 I201 R202 hl58 hl59 hl60 rfl hS213 (by omega) (by omega) (by omega) (by omega) (by omega) (by omega) (by rw [show v230.toInt.toNat = v57.toInt.toNat + 1 by omega]; have ez : (mkZ gX (-1) ((I0 a1 3).toInt.toNat + (I0 a6 2).toInt.toNat) gE gc v57.toInt v196.toInt) = mkZ gX (-1) ((I0 a1 3).toInt.toNat + (I0 a6 2).toInt.toNat) gE gc ((v57.toInt.toNat : Nat) : Int) (pw (gc 4) - 1) := (by rw [show ((v57.toInt.toNat : Nat) : Int) = v57.toInt by omega, ← hc39.2.2.2.1, ← ht198]); have w := B8.nz hw228 (by show gc 3 ≤ 8; omega); rw [ez] at w; exact byF.no rw71 (Or.inr (fun y => w.mpr y (by omega))) (by omega)) (SkQ.st (SkQ.of (SkW.rc rp183 hS64.1 ta0 (fun a j q => (R13 hS64 (by decide +kernel) a j q).symm))) hW0 ta0 g204 (by decide +kernel) (by decide +kernel)) (NgQ.fn rp186 hS64.1 ta0 g204 (DjN.st hDn hW0 ta0 hS187 (by decide +kernel) (by decide +kernel)) ((R13 hS187 (by decide +kernel) a0 14 (by rw [ta0]; decide)).trans d15) rp211 rp212 (by decide +kernel) (by decide +kernel) (by decide +kernel)) (by omega)
              · skip
                refine tr_iload_n dX10_by_83 hl61 ?_
                refine tr_istore_n dX10_by_84 (by decide) (by decide) ?_
                refine q_iincE dX10_by_85 hl61 (by decide) (by decide) (by intros; omega) ?_
                intro v232 h233
                refine tr_goto 19 dX10_by_88 (by decide) ?_
                exact ih74 _ v57 v232 I201 R202 hl58 hl59 rfl rfl hS213 (by omega) (by omega) (by omega) (by omega) (by omega) (by omega) (by rw [show v232.toInt.toNat = v57.toInt.toNat + 1 by omega]; have ez : (mkZ gX (-1) ((I0 a1 3).toInt.toNat + (I0 a6 2).toInt.toNat) gE gc v57.toInt v196.toInt) = mkZ gX (-1) ((I0 a1 3).toInt.toNat + (I0 a6 2).toInt.toNat) gE gc ((v57.toInt.toNat : Nat) : Int) (pw (gc 4) - 1) := (by rw [show ((v57.toInt.toNat : Nat) : Int) = v57.toInt by omega, ← hc39.2.2.2.1, ← ht198]); have w := B8.nz hw228 (by show gc 3 ≤ 8; omega); rw [ez] at w; exact byF.up rw71 (by rw [show ((v57.toInt.toNat : Nat) : Int) = v57.toInt by omega]; have p0 := rp164; have p1 := rp171; omega) (w.mp (by omega)) (by omega)) (SkQ.st (SkQ.of (SkW.rc rp183 hS64.1 ta0 (fun a j q => (R13 hS64 (by decide +kernel) a j q).symm))) hW0 ta0 g204 (by decide +kernel) (by decide +kernel)) (NgQ.fn rp186 hS64.1 ta0 g204 (DjN.st hDn hW0 ta0 hS187 (by decide +kernel) (by decide +kernel)) ((R13 hS187 (by decide +kernel) a0 14 (by rw [ta0]; decide)).trans d15) rp211 rp212 (by decide +kernel) (by decide +kernel) (by decide +kernel)) (by omega)
    exact lp74 _ _ v52 v54 I0 R0 rfl rfl rfl rfl hS0 (by omega) (by omega) (by omega) (by omega) (by omega) (by omega) (by rw [show v54.toInt.toNat = 0 by omega]; show _ = (-2 : Int); omega) hK hNg (Nat.lt_succ_self _)
  · skip
    refine tr_aload_n dX10_by_8 rfl ?_
    refine q_iconst dX10_by_9 (by decide) ?_
    intro v234 h235
    refine q_callVi hE (M' := mX10_refused) (as := [_]) dX10_by_10 lk10_79 inX10_refused seX10_refused myX10_refused (by decide) ⟨by decide, by decide⟩ rfl (kR1 hS0.1 ta0) (Nat.le_of_ble_eq_true rfl) rfl rfl (by decide) (by decide) (fk_X10_refused hS0.1  ta0) ?_
    rintro v241 cn' K' N' I236 R237 L238 ⟨rfl, rfl, rfl, rfl, rfl, g239, p242, p243, -⟩
    have hS244 := hS0.tr g239 (by decide +kernel) (by decide +kernel)
    obtain ⟨v245, c246⟩ : ∃ v, I236 a0 17 = v := ⟨_, rfl⟩
    rw [c246] at p243
    exact tr_iret hZ dX10_by_13 rfl (by decide) (by decide) ⟨v241, rfl, rfl, rfl, rfl, rfl, hS244, (SkQ.st hK hW0 ta0 g239 (by decide +kernel) (by decide +kernel)), (NgQ.st hNg hW0 ta0 g239 (by decide +kernel) (by decide +kernel) (by decide +kernel)), (by first | exact Or.inl ⟨(fun q0 z0 => by obtain rfl := Option.some.inj ((d2).symm.trans z0); (try rw [c4]); first | done | with_reducible assumption | omega), (by first | done | with_reducible assumption | omega), trivial⟩ | exact Or.inr (⟨(by first | done | with_reducible assumption | omega), (fun q0 z0 => by obtain rfl := Option.some.inj ((d2).symm.trans z0); (try rw [c4]); first | done | with_reducible assumption | omega), (by exfalso; omega), trivial⟩)), trivial⟩
def wik_X8_build_1 : List Nat := [768, 769, 778, 2303, 2367, 2431, 2495, 2559, 2623, 2687, 2751, 2815]
def wrk_X8_build_1 : List Nat := []
set_option maxHeartbeats 4000000 in
theorem fk_X8_build_1 {l : Launch} {T : Nat → Nat} {cn : Nat} {K N : Nat → Nat} {I0 : cz_I} {R0 : cz_R} {L0 : cz_L} {d : Int} (hW0 : Wf T cn K N I0 R0 d) (gX : Nat → Nat → Int) {a0 : Nat} (ta0 : T a0 = 12) {a1 : Nat} (ta1 : T a1 = 2) {a2 : Nat} (ta2 : T a2 = 9) {x3 : Int32} (hX : EvX I0 R0 a1 a2 gX) : ConE l mX8_build [.ref a0, .ref a1, .ref a2, .int x3] cn K N I0 R0 L0 (ca_v (fun cn' K' N' I' R' L' => cn = cn' ∧ K = K' ∧ N = N' ∧ R0 = R' ∧ L0 = L' ∧ St T cn K N d wik_X8_build_1 wrk_X8_build_1 I0 R0 I' R0 ∧ (SkF I' R0 a0 (I0 a1 0).toInt (I0 a1 1).toInt x3.toInt gX ((I0 a1 3).toInt.toNat + (I0 a2 2).toInt.toNat) (I0 a1 0).toInt) ∧ (FrS R0 a0 T I0 I') ∧ (Bts (I' a0 1) (fun j => if (j : Int) < (I0 a1 1).toInt then 1 else 0)) ∧ (∀ oA rA, R0 a1 8 = some oA → R0 oA 1 = some rA → StR I' R0 a0 (I0 a1 0).toInt (stI gX x3.toInt ((I0 a1 3).toInt.toNat + (I0 a2 2).toInt.toNat) (I0 a1 1).toInt (fun x => exI (fun j => if (I0 rA j).toInt = x then 1 else 0) (I0 oA 0).toInt.toNat))) ∧ True)) := by
  refine ConE.of (by decide +kernel) rfl (Nat.le_of_ble_eq_true rfl) rfl (fun X hX hZ hE => ?_)
  subst hX
  have hS0 : St T cn K N d wik_X8_build_1 wrk_X8_build_1 I0 R0 I0 R0 := St.rf0 hW0
  obtain ⟨a11, d12, ta11⟩ := rf12_2 hW0 ta0
  obtain ⟨a13, d14, ta13⟩ := rf12_3 hW0 ta0
  obtain ⟨a15, d16, ta15⟩ := rf12_4 hW0 ta0
  obtain ⟨a17, d18, ta17⟩ := rf12_5 hW0 ta0
  obtain ⟨a19, d20, ta19⟩ := rf12_6 hW0 ta0
  obtain ⟨a21, d22, ta21⟩ := rf12_7 hW0 ta0
  obtain ⟨a23, d24, ta23⟩ := rf12_8 hW0 ta0
  obtain ⟨a25, d26, ta25⟩ := rf12_9 hW0 ta0
  obtain ⟨a27, d28, ta27⟩ := rf12_11 hW0 ta0
  obtain ⟨v29, c30⟩ : ∃ v, I0 a1 0 = v := ⟨_, rfl⟩
  have b31 := iv2_0 hW0 ta1 c30
  obtain ⟨v32, c33⟩ : ∃ v, I0 a1 1 = v := ⟨_, rfl⟩
  have b34 := iv2_1 hW0 ta1 c33
  obtain ⟨v35, c36⟩ : ∃ v, I0 a1 3 = v := ⟨_, rfl⟩
  have b37 := iv2_3 hW0 ta1 c36
  obtain ⟨v38, c39⟩ : ∃ v, I0 a2 2 = v := ⟨_, rfl⟩
  have b40 := iv9_2 hW0 ta2 c39
  obtain ⟨a41, d42, ta41⟩ := rf2_4 hW0 ta1
  obtain ⟨a43, d44, ta43⟩ := rf9_3 hW0 ta2
  obtain ⟨a45, d46, ta45⟩ := rf9_4 hW0 ta2
  obtain ⟨a47, d48, ta47⟩ := rf2_8 hW0 ta1
  obtain ⟨a49, d50, ta49⟩ := rf6_1 hW0 ta47
  obtain ⟨v51, c52⟩ : ∃ v, I0 a47 0 = v := ⟨_, rfl⟩
  have b53 := iv6_0 hW0 ta47 c52
  refine tr_aload_n dX8_build_0 rfl ?_
  refine tr_aload_n dX8_build_1 rfl ?_
  refine q_getI dX8_build_2 fl8_40 (kR2 hS0.1 ta1) c30 ?_
  refine q_putI dX8_build_5 fl8_46 (kR12 hS0.1 ta0) (Or.inl rfl) hS0 ta0 (by show (0 : Int) ≤ v29.toInt ∧ v29.toInt ≤ (240 : Int); omega) rfl (by decide +kernel) ?_
  intro I54 hS55 e56 f57
  refine tr_aload_n dX8_build_8 rfl ?_
  refine q_iconst dX8_build_9 (by decide) ?_
  intro v58 h59
  refine tr_aload_n dX8_build_10 rfl ?_
  refine q_getI dX8_build_11 fl8_47 (kR2 hS55.1 ta1) ((hS55.cell ta1 (by decide +kernel)).trans c33) ?_
  refine tr_ishl dX8_build_14 ?_
  obtain ⟨v60, lx61⟩ : ∃ z, z = v58 <<< (v32 &&& 31) := ⟨_, rfl⟩
  rw [← lx61]
  refine q_iconst dX8_build_15 (by decide) ?_
  intro v62 h63
  refine tr_isub dX8_build_16 ?_
  obtain ⟨v64, lx65⟩ : ∃ z, z = v60 - v62 := ⟨_, rfl⟩
  rw [← lx65]
  refine q_putI dX8_build_17 fl8_50 (kR12 hS55.1 ta0) (Or.inl rfl) hS55 ta0 (iokF rfl) rfl (by decide +kernel) ?_
  intro I66 hS67 e68 f69
  have c70 : I66 a0 0 = v29 := (f69 _ _ (fun q => absurd q.2 (by decide))).trans e56
  refine tr_aload_n dX8_build_20 rfl ?_
  refine q_callVv hE (M' := mX8_wipe) (as := []) dX8_build_21 lk8_53 inX8_wipe seX8_wipe myX8_wipe (by decide) ⟨by decide, by decide⟩ rfl (kR12 hS67.1 ta0) (Nat.le_of_ble_eq_true rfl) rfl rfl (by decide) (by decide) (fk_X8_wipe hS67.1  ta0) ?_
  rintro cn' K' N' I71 R72 L73 ⟨rfl, rfl, rfl, rfl, rfl, g74, rp77, rp78, -⟩
  have hS79 := hS67.tr g74 (by decide +kernel) (by decide +kernel)
  have c80 : I71 a0 0 = v29 := (g74.cell ta0 (by decide +kernel)).trans c70
  have c81 : I71 a0 1 = v64 := (g74.cell ta0 (by decide +kernel)).trans e68
  refine q_iconst dX8_build_24 (by decide) ?_
  intro v82 h83
  refine tr_istore dX8_build_25 (by decide) (by decide) ?_
  have lp100 : ∀ (fu : Nat) (ls : Nat → Option Value) (v84 : Int32) (I90 : cz_I) (v92 : Int32), ls 0 = some (.ref a0) → ls 1 = some (.ref a1) → ls 2 = some (.ref a2) → ls 3 = some (.int x3) → ls 4 = some (.int v84) → St T cn K N d wik_X8_build_1 wrk_X8_build_1 I0 R0 I90 R0 → I90 a0 0 = v92 → 0 ≤ v84.toInt → v84.toInt ≤ v35.toInt → (SkR I90 R0 a0 v29.toInt x3.toInt gX (v84.toInt.toNat)) → (Bts (I90 a0 1) (fun j => if (j : Int) < v32.toInt then 1 else 0)) → (FrS R0 a0 T I0 I90) → (v92.toInt = v29.toInt) → (-v84.toInt + 2147483647).toNat < fu → Tr X mX8_build 27 ls [] cn K N I90 R0 L0 0 0 := by
    intro fu
    induction fu with
    | zero => intros; rename_i hz; exact absurd hz (Nat.not_lt_zero _)
    | succ fu ih100 =>
      intro ls v84 I90 v92 hl85 hl86 hl87 hl88 hl89 hS91 c93 g94 g95 rw96 rw97 rw98 rw99 hm100
      have b102 := iv12_0 hS91.1 ta0 c93
      refine tr_iload dX8_build_27 hl89 ?_
      refine tr_aload_n dX8_build_29 hl86 ?_
      refine q_getI dX8_build_30 fl8_56 (kR2 hS91.1 ta1) ((hS91.cell ta1 (by decide +kernel)).trans c36) ?_
      refine q_icmp_ge 59 dX8_build_33 (by decide) (fun h103 => ?_) (fun h103 => ?_)
      · skip
        refine q_iconst dX8_build_59 (by decide) ?_
        intro v104 h105
        refine tr_istore dX8_build_60 (by decide) (by decide) ?_
        have lp122 : ∀ (fu : Nat) (ls : Nat → Option Value) (v106 : Int32) (I112 : cz_I) (v114 : Int32), ls 0 = some (.ref a0) → ls 1 = some (.ref a1) → ls 2 = some (.ref a2) → ls 3 = some (.int x3) → ls 4 = some (.int v106) → St T cn K N d wik_X8_build_1 wrk_X8_build_1 I0 R0 I112 R0 → I112 a0 0 = v114 → 0 ≤ v106.toInt → v106.toInt ≤ v38.toInt → (SkR I112 R0 a0 v29.toInt x3.toInt gX (v35.toInt.toNat + v106.toInt.toNat)) → (Bts (I112 a0 1) (fun j => if (j : Int) < v32.toInt then 1 else 0)) → (FrS R0 a0 T I0 I112) → (v114.toInt = v29.toInt) → (-v106.toInt + 2147483647).toNat < fu → Tr X mX8_build 62 ls [] cn K N I112 R0 L0 0 0 := by
          intro fu
          induction fu with
          | zero => intros; rename_i hz; exact absurd hz (Nat.not_lt_zero _)
          | succ fu ih122 =>
            intro ls v106 I112 v114 hl107 hl108 hl109 hl110 hl111 hS113 c115 g116 g117 rw118 rw119 rw120 rw121 hm122
            have b124 := iv12_0 hS113.1 ta0 c115
            refine tr_iload dX8_build_62 hl111 ?_
            refine tr_aload_n dX8_build_64 hl109 ?_
            refine q_getI dX8_build_65 fl8_67 (kR9 hS113.1 ta2) ((hS113.cell ta2 (by decide +kernel)).trans c39) ?_
            refine q_icmp_ge 106 dX8_build_68 (by decide) (fun h125 => ?_) (fun h125 => ?_)
            · skip
              refine tr_aload_n dX8_build_106 hl107 ?_
              refine q_callVv hE (M' := mX8_findLight) (as := []) dX8_build_107 lk8_82 inX8_findLight seX8_findLight myX8_findLight (by decide) ⟨by decide, by decide⟩ rfl (kR12 hS113.1 ta0) (Nat.le_of_ble_eq_true rfl) rfl rfl (by decide) (by decide) (fk_X8_findLight hS113.1 (gX) (v35.toInt.toNat + v38.toInt.toNat) (x3.toInt) (v32.toInt) ta0 (by have z := rw118; rw [show v106.toInt.toNat = v38.toInt.toNat by omega, show v29.toInt = v114.toInt by omega] at z; rw [c115]; exact z) rw119) ?_
              rintro cn' K' N' I126 R127 L128 ⟨rfl, rfl, rfl, rfl, rfl, g129, rp132, rp133, -⟩
              have hS134 := hS113.tr g129 (by decide +kernel) (by decide +kernel)
              have c135 : I126 a0 0 = v114 := (g129.cell ta0 (by decide +kernel)).trans c115
              refine tr_aload_n dX8_build_110 hl107 ?_
              refine tr_aload_n dX8_build_111 hl108 ?_
              refine tr_getR dX8_build_112 fl8_85 (kR2 hS134.1 ta1) d48 ?_
              refine q_callVv hE (M' := mX8_findStirs) (as := [_]) dX8_build_115 lk8_89 inX8_findStirs seX8_findStirs myX8_findStirs (by decide) ⟨by decide, by decide⟩ rfl (kR12 hS134.1 ta0) (Nat.le_of_ble_eq_true rfl) rfl rfl (by decide) (by decide) (fk_X8_findStirs hS134.1  ta0 ta47) ?_
              rintro cn' K' N' I136 R137 L138 ⟨rfl, rfl, rfl, rfl, rfl, g139, rp142, rp143, -⟩
              have hS144 := hS134.tr g139 (by decide +kernel) (by decide +kernel)
              have c145 : I136 a0 0 = v114 := (g139.cell ta0 (by decide +kernel)).trans c135
              exact tr_vret hZ dX8_build_118 rfl (by decide) (by decide) ⟨rfl, rfl, rfl, rfl, rfl, rfl, hS144, (by rw [c30, c33, c36, c39]; have z := SkF.kp rp132 (fun r m k h2 h9 hr => by have hk : k = 2 ∨ k = 3 ∨ k = 4 ∨ k = 5 ∨ k = 6 ∨ k = 7 ∨ k = 8 ∨ k = 9 := (by omega); rcases hk with rfl | rfl | rfl | rfl | rfl | rfl | rfl | rfl; exact g139.cell (hS113.1.rs ta0 rfl rfl hr : T r = 35) (wm_no (by decide +kernel)); exact g139.cell (hS113.1.rs ta0 rfl rfl hr : T r = 36) (wm_no (by decide +kernel)); exact g139.cell (hS113.1.rs ta0 rfl rfl hr : T r = 37) (wm_no (by decide +kernel)); exact g139.cell (hS113.1.rs ta0 rfl rfl hr : T r = 38) (wm_no (by decide +kernel)); exact g139.cell (hS113.1.rs ta0 rfl rfl hr : T r = 39) (wm_no (by decide +kernel)); exact g139.cell (hS113.1.rs ta0 rfl rfl hr : T r = 40) (wm_no (by decide +kernel)); exact g139.cell (hS113.1.rs ta0 rfl rfl hr : T r = 41) (wm_no (by decide +kernel)); exact g139.cell (hS113.1.rs ta0 rfl rfl hr : T r = 42) (wm_no (by decide +kernel))); rw [c115, show v114.toInt = v29.toInt by omega] at z; exact z), ((rw120.tr rp133).tr rp142), (by rw [c33]; rw [g139.cell ta0 (by decide +kernel)]; exact (by rw [g129.cell ta0 (by decide +kernel)]; exact rw119)), (fun oA rA ho hr => by obtain rfl := Option.some.inj (d48.symm.trans ho); obtain rfl := Option.some.inj (d50.symm.trans hr); have F := rp132; have z := rp143 _ _ _ _ d14 d24 d26 d50; rw [c115] at F; rw [show I126 a0 0 = v114 from (g129.cell ta0 (by decide +kernel)).trans c115] at z; have w := StR.cg z (g := stI gX x3.toInt ((I0 a1 3).toInt.toNat + (I0 a2 2).toInt.toNat) (I0 a1 1).toInt (fun x => exI (fun j => if (I0 a49 j).toInt = x then 1 else 0) (I0 a47 0).toInt.toNat)) (fun m hm => by rw [stI_of (r3 := a13) (r8 := a23) (r9 := a25) (A := exI (fun j => if (I0 a49 j).toInt = (m : Int) then 1 else 0) (I0 a47 0).toInt.toNat) (by rw [c33, c36, c39]; exact F) d14 d24 d26 hm rfl]; show _ = (if _ then _ else _); rw [hS134.cell ta47 (by decide +kernel), exI_cg (f := fun j => if (I126 a49 j).toInt = (m : Int) then 1 else 0) _ (fun j _ => by show (if (I0 a49 j).toInt = (m : Int) then (1 : Int) else 0) = if (I126 a49 j).toInt = (m : Int) then 1 else 0; rw [hS134.cell ta49 (wm_no (by decide +kernel))])]); rw [c30, show v29.toInt = v114.toInt by omega]; exact w), trivial⟩
            · skip
              refine tr_aload_n dX8_build_71 hl108 ?_
              refine q_getI dX8_build_72 fl8_56 (kR2 hS113.1 ta1) ((hS113.cell ta1 (by decide +kernel)).trans c36) ?_
              refine tr_iload dX8_build_75 hl111 ?_
              refine q_iaddE dX8_build_77 (by intros; omega) ?_
              intro v146 h147
              refine tr_iload_n dX8_build_78 hl110 ?_
              refine q_icmp_eq 100 dX8_build_79 (by decide) (fun h148 => ?_) (fun h148 => ?_)
              · skip
                refine q_iincE dX8_build_100 hl111 (by decide) (by decide) (by intros; omega) ?_
                intro v149 h150
                refine tr_goto 62 dX8_build_103 (by decide) ?_
                exact ih122 _ v149 I112 v114 hl107 hl108 hl109 hl110 rfl hS113 c115 (by omega) (by omega) (by rw [show v35.toInt.toNat + v149.toInt.toNat = v35.toInt.toNat + v106.toInt.toNat + 1 by omega]; exact SkR.skip rw118 (by omega)) (by rw [show (0 : Int) = 0 from rfl]; exact rw119) rw120 (by omega) (by omega)
              · skip
                refine tr_aload_n dX8_build_82 hl107 ?_
                refine tr_aload_n dX8_build_83 hl109 ?_
                refine tr_getR dX8_build_84 fl8_72 (kR9 hS113.1 ta2) d44 ?_
                refine tr_iload dX8_build_87 hl111 ?_
                refine q_iald dX8_build_89 (kR29 hS113.1 ta43) (ti_in (nR29 hS113.1 ta43) (by omega) (by omega)) ?_
                intro v151 c152
                have b153 := iv29 hS113.1 ta43 c152
                refine tr_aload_n dX8_build_90 hl109 ?_
                refine tr_getR dX8_build_91 fl8_75 (kR9 hS113.1 ta2) d46 ?_
                refine tr_iload dX8_build_94 hl111 ?_
                refine q_iald dX8_build_96 (kR30 hS113.1 ta45) (ti_in (nR30 hS113.1 ta45) (by omega) (by omega)) ?_
                intro v154 c155
                have b156 := iv30 hS113.1 ta45 c155
                refine q_callVv hE (M' := mX8_layCloud) (as := [_, _]) dX8_build_97 lk8_78 inX8_layCloud seX8_layCloud myX8_layCloud (by decide) ⟨by decide, by decide⟩ rfl (kR12 hS113.1 ta0) (Nat.le_of_ble_eq_true rfl) rfl rfl (by decide) (by decide) (fk_X8_layCloud hS113.1  ta0 (by omega) (by omega)) ?_
                rintro cn' K' N' I157 R158 L159 ⟨rfl, rfl, rfl, rfl, rfl, g160, rp163, rp164, -⟩
                have hS165 := hS113.tr g160 (by decide +kernel) (by decide +kernel)
                have c166 : I157 a0 0 = v114 := (g160.cell ta0 (by decide +kernel)).trans c115
                refine q_iincE dX8_build_100 hl111 (by decide) (by decide) (by intros; omega) ?_
                intro v167 h168
                refine tr_goto 62 dX8_build_103 (by decide) ?_
                exact ih122 _ v167 I157 v114 hl107 hl108 hl109 hl110 rfl hS165 c166 (by omega) (by omega) (by have hx := (hX.2 _ _ v106.toInt.toNat d44 d46 (by rw [c39]; omega)); rw [c36, (show (I0 a43 v106.toInt.toNat) = v151 from (hS113.cell ta43 (wm_no (by decide +kernel))).symm.trans c152), (show (I0 a45 v106.toInt.toNat) = v154 from (hS113.cell ta45 (wm_no (by decide +kernel))).symm.trans c155)] at hx; rw [show v35.toInt.toNat + v167.toInt.toNat = v35.toInt.toNat + v106.toInt.toNat + 1 by omega]; exact SkR.lay (kd := 0) (fr := v151.toInt) (to := v154.toInt) (hut := 0) rw118 (by omega) hx.1 hx.2.1 hx.2.2 (fun w => by exfalso; omega) (fun r hr => LyI.z (fun m => (g160.cell (hS113.1.rs ta0 rfl rfl hr : T r = 35) (wm_no (by decide +kernel)))) (by split <;> omega)) (fun r hr => LyI.z (fun m => (g160.cell (hS113.1.rs ta0 rfl rfl hr : T r = 36) (wm_no (by decide +kernel)))) (by split <;> omega)) (fun r hr => by rw [if_pos rfl]; exact rp163 _ hr) (fun r hr => LyB.z (fun m => (g160.cell (hS113.1.rs ta0 rfl rfl hr : T r = 38) (wm_no (by decide +kernel)))) (by split <;> omega)) (fun r hr => LyB.z (fun m => (g160.cell (hS113.1.rs ta0 rfl rfl hr : T r = 40) (wm_no (by decide +kernel)))) (by split <;> omega))) (by rw [show I157 a0 1 = _ from (g160.cell ta0 (wm_no (by decide +kernel)))]; exact rw119) (rw120.tr rp164) (by omega) (by omega)
        exact lp122 _ _ v104 I90 v92 hl85 hl86 hl87 hl88 rfl hS91 c93 (by omega) (by omega) (by have z := rw96; rw [show v84.toInt.toNat = v35.toInt.toNat + v104.toInt.toNat by omega] at z; exact z) (by rw [show (0 : Int) = 0 from rfl]; exact rw97) rw98 (by omega) (Nat.lt_succ_self _)
      · skip
        refine tr_iload dX8_build_36 hl89 ?_
        refine tr_iload_n dX8_build_38 hl88 ?_
        refine q_icmp_eq 53 dX8_build_39 (by decide) (fun h169 => ?_) (fun h169 => ?_)
        · skip
          refine q_iincE dX8_build_53 hl89 (by decide) (by decide) (by intros; omega) ?_
          intro v170 h171
          refine tr_goto 27 dX8_build_56 (by decide) ?_
          exact ih100 _ v170 I90 v92 hl85 hl86 hl87 hl88 rfl hS91 c93 (by omega) (by omega) (by rw [show v170.toInt.toNat = v84.toInt.toNat + 1 by omega]; exact SkR.skip rw96 (by omega)) (by rw [show (0 : Int) = 0 from rfl]; exact rw97) rw98 (by omega) (by omega)
        · skip
          refine tr_aload_n dX8_build_42 hl85 ?_
          refine tr_aload_n dX8_build_43 hl86 ?_
          refine tr_getR dX8_build_44 fl8_59 (kR2 hS91.1 ta1) d42 ?_
          refine tr_iload dX8_build_47 hl89 ?_
          obtain ⟨a172, d173, ta172⟩ := rf19 hS91.1 ta41 (j := v84.toNatClampNeg) (ti_lt (by omega) (by omega))
          refine tr_aald dX8_build_49 (kR19 hS91.1 ta41) (by decide) (by decide) (ti_in (nR19 hS91.1 ta41) (by omega) (by omega)) d173 ?_
          obtain ⟨v174, c175⟩ : ∃ v, I0 a172 0 = v := ⟨_, rfl⟩
          obtain ⟨v177, c178⟩ : ∃ v, I0 a172 1 = v := ⟨_, rfl⟩
          obtain ⟨v179, c180⟩ : ∃ v, I0 a172 2 = v := ⟨_, rfl⟩
          have b181 := iv3_2 hW0 ta172 c180
          obtain ⟨v182, c183⟩ : ∃ v, I0 a172 3 = v := ⟨_, rfl⟩
          have b184 := iv3_3 hW0 ta172 c183
          have hq176 := hX.1 _ d42 v84.toInt.toNat _ (by rw [c36]; omega) d173
          have hq176k : 0 ≤ v174.toInt ∧ v174.toInt ≤ 4 := by obtain ⟨q0, -, -, -, q4, q5, -⟩ := hq176; rw [c175] at q0; omega
          refine q_callVv hE (M' := mX8_layEvent) (as := [_]) dX8_build_50 lk8_63 inX8_layEvent seX8_layEvent myX8_layEvent (by decide) ⟨by decide, by decide⟩ rfl (kR12 hS91.1 ta0) (Nat.le_of_ble_eq_true rfl) rfl rfl (by decide) (by decide) (fk_X8_layEvent hS91.1  ta0 ta172 (by (try rw [((hS91.cell ta172 (by decide +kernel)).trans c175)]); first | done | with_reducible assumption | omega) (by (try rw [((hS91.cell ta172 (by decide +kernel)).trans c175)]); first | done | with_reducible assumption | omega)) ?_
          rintro cn' K' N' I185 R186 L187 ⟨rfl, rfl, rfl, rfl, rfl, g188, rp191, rp192, rp193, rp194, rp195, rp196, -⟩
          have hS197 := hS91.tr g188 (by decide +kernel) (by decide +kernel)
          have c198 : I185 a0 0 = v92 := (g188.cell ta0 (by decide +kernel)).trans c93
          refine q_iincE dX8_build_53 hl89 (by decide) (by decide) (by have z0 := x3.toInt_lt; have y0 := x3.le_toInt; intros; omega) ?_
          intro v199 h200
          refine tr_goto 27 dX8_build_56 (by decide) ?_
          exact ih100 _ v199 I185 v92 hl85 hl86 hl87 hl88 rfl hS197 c198 (by omega) (by omega) (by rw [show v199.toInt.toNat = v84.toInt.toNat + 1 by omega]; exact SkR.lay rw96 (by omega) (by rw [(hS91.cell ta172 (by decide +kernel))]; exact (hq176.1).symm) (by rw [(hS91.cell ta172 (by decide +kernel))]; exact (hq176.2.2.1).symm) (by rw [(hS91.cell ta172 (by decide +kernel))]; exact (hq176.2.2.2.1).symm) (fun w => by rw [(hS91.cell ta172 (by decide +kernel))] at w; rw [(hS91.cell ta172 (by decide +kernel))]; obtain ⟨q0, q1, -, -, -, -, q6⟩ := hq176; have y := q6 (by omega); omega) rp191 rp192 rp193 rp194 rp195) (by rw [show I185 a0 1 = _ from (g188.cell ta0 (wm_no (by decide +kernel)))]; exact rw97) (rw98.tr rp196) (by omega) (by omega)
  exact lp100 _ _ v82 I71 v29 rfl rfl rfl rfl rfl hS79 c80 (by omega) (by omega) (by rw [show v82.toInt.toNat = 0 by omega]; exact SkR.z (fun r m h hm => rp77 r m h (by rw [c70]; omega))) (by rw [c81, lx65, lx61]; exact Bts.all (by omega) (by omega) (by omega) (by omega)) ((((FrS.rf (R := R0) (sk := a0) (T := T)).po f57 rfl ta0).po f69 rfl ta0).tr rp78) (by omega) (Nat.lt_succ_self _)
def wik_X10_nights : List Nat := [81, 576, 577, 578, 768, 769, 778, 834, 1919, 1983, 2303, 2367, 2431, 2495, 2559, 2623, 2687, 2751, 2815, 2879, 2943, 3007, 3071, 3135, 3199, 3263, 3327, 3391]
def wrk_X10_nights : List Nat := [832, 833]
def Cs_X10_nights (T : Nat → Nat) (I0 : cz_I) (R0 : cz_R) (a0 : Nat) (gX : Nat → Nat → Int) (gE : Nat → Nat → Int) (gc : Nat → Int) (x1 : Int32) (x2 : Int32) (x3 : Int32) (v : Int32) (I' : cz_I) (R' : cz_R) : Prop :=
  (((I0 a0 5).toInt = 0) ∧ (v.toInt = -100000) ∧ True) ∨
  (((I0 a0 5).toInt = 1) ∧ True)
set_option maxHeartbeats 4000000 in
theorem fk_X10_nights {l : Launch} {T : Nat → Nat} {cn : Nat} {K N : Nat → Nat} {I0 : cz_I} {R0 : cz_R} {L0 : cz_L} {d : Int} (hW0 : Wf T cn K N I0 R0 d) (gX : Nat → Nat → Int) (gE : Nat → Nat → Int) (gc : Nat → Int) {a0 : Nat} (ta0 : T a0 = 1) {x1 : Int32} {x2 : Int32} {x3 : Int32} (hX : EvQ I0 R0 a0 gX) (hK : SkQ I0 R0 a0 gX) (hD : DjS R0 a0) (hEa : ∀ al, R0 a0 2 = some al → CVa I0 R0 al gc gE) (hGd : GdE gc gE) (hMs : ∀ nw, R0 a0 6 = some nw → 0 ≤ (I0 nw 0).toInt ∧ (I0 nw 0).toInt ≤ 63) (hNg : NgQ I0 R0 a0 gX gE gc) (hDn : DjN R0 a0) (h1 : 1 ≤ gc 0 ∨ ∀ i, gc i = 0) : ConE l mX10_nights [.ref a0, .int x1, .int x2, .int x3] cn K N I0 R0 L0 (ca_i (fun v cn' K' N' I' R' L' => cn = cn' ∧ K = K' ∧ N = N' ∧ L0 = L' ∧ St T cn K N d wik_X10_nights wrk_X10_nights I0 R0 I' R' ∧ (SkQ I' R0 a0 gX) ∧ (NgQ I' R' a0 gX gE gc) ∧ Cs_X10_nights T I0 R0 a0 gX gE gc x1 x2 x3 v I' R' ∧ True)) := by
  refine ConE.of (by decide +kernel) rfl (Nat.le_of_ble_eq_true rfl) rfl (fun X hX hZ hE => ?_)
  subst hX
  have hS0 : St T cn K N d wik_X10_nights wrk_X10_nights I0 R0 I0 R0 := St.rf0 hW0
  obtain ⟨v1, c2⟩ : ∃ v, I0 a0 5 = v := ⟨_, rfl⟩
  have b3 := iv1_5 hW0 ta0 c2
  obtain ⟨a4, d5, ta4⟩ := rf1_2 hW0 ta0
  obtain ⟨a6, d7, ta6⟩ := rf1_6 hW0 ta0
  obtain ⟨a8, d9, ta8⟩ := rf1_8 hW0 ta0
  obtain ⟨a10, d11, ta10⟩ := rf1_10 hW0 ta0
  obtain ⟨a12, d13, ta12⟩ := rf1_13 hW0 ta0
  obtain ⟨a14, d15, ta14⟩ := rf1_14 hW0 ta0
  obtain ⟨v16, c17⟩ : ∃ v, I0 a4 0 = v := ⟨_, rfl⟩
  have b18 := iv2_0 hW0 ta4 c17
  obtain ⟨v19, c20⟩ : ∃ v, I0 a4 1 = v := ⟨_, rfl⟩
  have b21 := iv2_1 hW0 ta4 c20
  obtain ⟨v22, c23⟩ : ∃ v, I0 a4 3 = v := ⟨_, rfl⟩
  have b24 := iv2_3 hW0 ta4 c23
  obtain ⟨v25, c26⟩ : ∃ v, I0 a4 5 = v := ⟨_, rfl⟩
  have b27 := iv2_5 hW0 ta4 c26
  obtain ⟨v28, c29⟩ : ∃ v, I0 a4 9 = v := ⟨_, rfl⟩
  have b30 := iv2_9 hW0 ta4 c29
  obtain ⟨v31, c32⟩ : ∃ v, I0 a4 11 = v := ⟨_, rfl⟩
  have b33 := iv2_11 hW0 ta4 c32
  obtain ⟨v34, c35⟩ : ∃ v, I0 a6 0 = v := ⟨_, rfl⟩
  obtain ⟨v36, c37⟩ : ∃ v, I0 a6 2 = v := ⟨_, rfl⟩
  have b38 := iv8_2 hW0 ta6 c37
  have hc39 := (hEa _ d5).ct
  rw [c17, c20, c26, c29, c32] at hc39
  have hc39m := hMs _ d7
  have hc39g := hGd.own hc39m gX (-1) ((I0 a4 3).toInt.toNat + (I0 a6 2).toInt.toNat)
  rw [c35] at hc39m
  have hc39z0 : nzc ((NgZ I0 a4 a6 gX gE gc)) 0 = gc 0 := rfl
  have hc39z1 : nzc ((NgZ I0 a4 a6 gX gE gc)) 1 = gc 1 := rfl
  have hc39z3 : nzc ((NgZ I0 a4 a6 gX gE gc)) 3 = gc 3 := rfl
  have hc39z4 : nzc ((NgZ I0 a4 a6 gX gE gc)) 4 = gc 4 := rfl
  have hc39z5 : nzc ((NgZ I0 a4 a6 gX gE gc)) 5 = gc 5 := rfl
  refine tr_aload_n dX10_nights_0 rfl ?_
  refine q_getZ dX10_nights_1 fl10_95 (kR1 hS0.1 ta0) c2 ?_
  refine q_if_ne 13 dX10_nights_4 (by decide) (fun h40 => ?_) (fun h40 => ?_)
  · skip
    refine tr_iload_n dX10_nights_13 rfl ?_
    refine q_callSi hE (M' := mX10_isSeed) (as := [_]) dX10_nights_14 lk10_266 inX10_isSeed myX10_isSeed ⟨by decide, by decide⟩ rfl (Nat.le_of_ble_eq_true rfl) rfl rfl (by decide) (by decide) (fk_X10_isSeed hS0.1  ) ?_
    rintro v46 cn' K' N' I41 R42 L43 ⟨rfl, rfl, rfl, rfl, rfl, rfl, h47, p48, p49, -⟩
    refine q_if_eq 41 dX10_nights_17 (by decide) (fun h50 => ?_) (fun h50 => ?_)
    · skip
      refine tr_aload_n dX10_nights_41 rfl ?_
      refine q_iconst dX10_nights_42 (by decide) ?_
      intro v51 h52
      refine q_callVi hE (M' := mX10_refusedTotal) (as := [_]) dX10_nights_43 lk10_178 inX10_refusedTotal seX10_refusedTotal myX10_refusedTotal (by decide) ⟨by decide, by decide⟩ rfl (kR1 hS0.1 ta0) (Nat.le_of_ble_eq_true rfl) rfl rfl (by decide) (by decide) (fk_X10_refusedTotal hS0.1  ta0) ?_
      rintro v58 cn' K' N' I53 R54 L55 ⟨rfl, rfl, rfl, rfl, rfl, g56, p59, p60, -⟩
      have hS61 := hS0.tr g56 (by decide +kernel) (by decide +kernel)
      obtain ⟨v62, c63⟩ : ∃ v, I53 a0 17 = v := ⟨_, rfl⟩
      rw [c63] at p60
      exact tr_iret hZ dX10_nights_46 rfl (by decide) (by decide) ⟨v58, rfl, rfl, rfl, rfl, rfl, hS61, (SkQ.st hK hW0 ta0 g56 (by decide +kernel) (by decide +kernel)), (NgQ.st hNg hW0 ta0 g56 (by decide +kernel) (by decide +kernel) (by decide +kernel)), (Or.inr (⟨(by (try rw [c2]); first | done | with_reducible assumption | omega), trivial⟩)), trivial⟩
    · skip
      refine tr_iload_n dX10_nights_20 rfl ?_
      refine q_iconst dX10_nights_21 (by decide) ?_
      intro v64 h65
      refine q_icmp_lt 41 dX10_nights_22 (by decide) (fun h66 => ?_) (fun h66 => ?_)
      · skip
        refine tr_aload_n dX10_nights_41 rfl ?_
        refine q_iconst dX10_nights_42 (by decide) ?_
        intro v67 h68
        refine q_callVi hE (M' := mX10_refusedTotal) (as := [_]) dX10_nights_43 lk10_178 inX10_refusedTotal seX10_refusedTotal myX10_refusedTotal (by decide) ⟨by decide, by decide⟩ rfl (kR1 hS0.1 ta0) (Nat.le_of_ble_eq_true rfl) rfl rfl (by decide) (by decide) (fk_X10_refusedTotal hS0.1  ta0) ?_
        rintro v74 cn' K' N' I69 R70 L71 ⟨rfl, rfl, rfl, rfl, rfl, g72, p75, p76, -⟩
        have hS77 := hS0.tr g72 (by decide +kernel) (by decide +kernel)
        obtain ⟨v78, c79⟩ : ∃ v, I69 a0 17 = v := ⟨_, rfl⟩
        rw [c79] at p76
        exact tr_iret hZ dX10_nights_46 rfl (by decide) (by decide) ⟨v74, rfl, rfl, rfl, rfl, rfl, hS77, (SkQ.st hK hW0 ta0 g72 (by decide +kernel) (by decide +kernel)), (NgQ.st hNg hW0 ta0 g72 (by decide +kernel) (by decide +kernel) (by decide +kernel)), (Or.inr (⟨(by (try rw [c2]); first | done | with_reducible assumption | omega), trivial⟩)), trivial⟩
      · skip
        refine tr_iload_n dX10_nights_25 rfl ?_
        refine q_bipush dX10_nights_26 (by decide +kernel) ?_
        intro v80 h81
        refine q_icmp_gt 41 dX10_nights_28 (by decide) (fun h82 => ?_) (fun h82 => ?_)
        · skip
          refine tr_aload_n dX10_nights_41 rfl ?_
          refine q_iconst dX10_nights_42 (by decide) ?_
          intro v83 h84
          refine q_callVi hE (M' := mX10_refusedTotal) (as := [_]) dX10_nights_43 lk10_178 inX10_refusedTotal seX10_refusedTotal myX10_refusedTotal (by decide) ⟨by decide, by decide⟩ rfl (kR1 hS0.1 ta0) (Nat.le_of_ble_eq_true rfl) rfl rfl (by decide) (by decide) (fk_X10_refusedTotal hS0.1  ta0) ?_
          rintro v90 cn' K' N' I85 R86 L87 ⟨rfl, rfl, rfl, rfl, rfl, g88, p91, p92, -⟩
          have hS93 := hS0.tr g88 (by decide +kernel) (by decide +kernel)
          obtain ⟨v94, c95⟩ : ∃ v, I85 a0 17 = v := ⟨_, rfl⟩
          rw [c95] at p92
          exact tr_iret hZ dX10_nights_46 rfl (by decide) (by decide) ⟨v90, rfl, rfl, rfl, rfl, rfl, hS93, (SkQ.st hK hW0 ta0 g88 (by decide +kernel) (by decide +kernel)), (NgQ.st hNg hW0 ta0 g88 (by decide +kernel) (by decide +kernel) (by decide +kernel)), (Or.inr (⟨(by (try rw [c2]); first | done | with_reducible assumption | omega), trivial⟩)), trivial⟩
        · skip
          refine tr_iload_n dX10_nights_31 rfl ?_
          refine q_if_lt 41 dX10_nights_32 (by decide) (fun h96 => ?_) (fun h96 => ?_)
          · skip
            refine tr_aload_n dX10_nights_41 rfl ?_
            refine q_iconst dX10_nights_42 (by decide) ?_
            intro v97 h98
            refine q_callVi hE (M' := mX10_refusedTotal) (as := [_]) dX10_nights_43 lk10_178 inX10_refusedTotal seX10_refusedTotal myX10_refusedTotal (by decide) ⟨by decide, by decide⟩ rfl (kR1 hS0.1 ta0) (Nat.le_of_ble_eq_true rfl) rfl rfl (by decide) (by decide) (fk_X10_refusedTotal hS0.1  ta0) ?_
            rintro v104 cn' K' N' I99 R100 L101 ⟨rfl, rfl, rfl, rfl, rfl, g102, p105, p106, -⟩
            have hS107 := hS0.tr g102 (by decide +kernel) (by decide +kernel)
            obtain ⟨v108, c109⟩ : ∃ v, I99 a0 17 = v := ⟨_, rfl⟩
            rw [c109] at p106
            exact tr_iret hZ dX10_nights_46 rfl (by decide) (by decide) ⟨v104, rfl, rfl, rfl, rfl, rfl, hS107, (SkQ.st hK hW0 ta0 g102 (by decide +kernel) (by decide +kernel)), (NgQ.st hNg hW0 ta0 g102 (by decide +kernel) (by decide +kernel) (by decide +kernel)), (Or.inr (⟨(by (try rw [c2]); first | done | with_reducible assumption | omega), trivial⟩)), trivial⟩
          · skip
            refine tr_iload_n dX10_nights_35 rfl ?_
            refine q_bipush dX10_nights_36 (by decide +kernel) ?_
            intro v110 h111
            refine q_icmp_le 47 dX10_nights_38 (by decide) (fun h112 => ?_) (fun h112 => ?_)
            · skip
              refine tr_aload_n dX10_nights_47 rfl ?_
              obtain ⟨a113, d114, ta113⟩ := rf1_12 hW0 ta0
              refine tr_getR dX10_nights_48 fl10_62 (kR1 hS0.1 ta0) d114 ?_
              refine q_callVv hE (M' := mX3_clear) (as := []) dX10_nights_51 lk10_99 inX3_clear seX3_clear myX3_clear (by decide) ⟨by decide, by decide⟩ rfl (kR9 hS0.1 ta113) (Nat.le_of_ble_eq_true rfl) rfl rfl (by decide) (by decide) (k_X3_clear_1 hS0.1 ta113) ?_
              rintro cn' K' N' I115 R116 L117 ⟨rfl, rfl, rfl, rfl, rfl, g118, -⟩
              have hS120 := hS0.tr g118 (by decide +kernel) (by decide +kernel)
              refine tr_aload_n dX10_nights_54 rfl ?_
              refine tr_getR dX10_nights_55 fl10_62 (kR1 hS120.1 ta0) d114 ?_
              refine tr_iload_n dX10_nights_58 rfl ?_
              refine q_putI dX10_nights_59 fl10_269 (kR9 hS120.1 ta113) (Or.inl rfl) hS120 ta113 (by show (0 : Int) ≤ x1.toInt ∧ x1.toInt ≤ (65536 : Int); omega) rfl (by decide +kernel) ?_
              intro I121 hS122 e123 f124
              refine q_iconst dX10_nights_62 (by decide) ?_
              intro v125 h126
              refine tr_istore dX10_nights_63 (by decide) (by decide) ?_
              refine q_iconst dX10_nights_65 (by decide) ?_
              intro v127 h128
              refine tr_istore dX10_nights_66 (by decide) (by decide) ?_
              have lp146 : ∀ (fu : Nat) (ls : Nat → Option Value) (v129 : Int32) (v130 : Int32) (I137 : cz_I) (R138 : cz_R), ls 0 = some (.ref a0) → ls 1 = some (.int x1) → ls 2 = some (.int x2) → ls 3 = some (.int x3) → ls 4 = some (.int v129) → ls 5 = some (.int v130) → St T cn K N d wik_X10_nights wrk_X10_nights I0 R0 I137 R138 → 0 ≤ v130.toInt → v130.toInt ≤ 8 → -594 * v130.toInt ≤ v129.toInt → v129.toInt ≤ 240000 * v130.toInt → (SkQ I137 R0 a0 gX) → (NgQ I137 R138 a0 gX gE gc) → (-v130.toInt + 2147483647).toNat < fu → Tr X mX10_nights 68 ls [] cn K N I137 R138 L0 0 0 := by
                intro fu
                induction fu with
                | zero => intros; rename_i hz; exact absurd hz (Nat.not_lt_zero _)
                | succ fu ih146 =>
                  intro ls v129 v130 I137 R138 hl131 hl132 hl133 hl134 hl135 hl136 hS139 g140 g141 g142 g143 rw144 rw145 hm146
                  refine tr_iload dX10_nights_68 hl136 ?_
                  refine tr_iload_n dX10_nights_70 hl133 ?_
                  refine q_icmp_ge 172 dX10_nights_71 (by decide) (fun h148 => ?_) (fun h148 => ?_)
                  · skip
                    refine tr_aload_n dX10_nights_172 hl131 ?_
                    refine tr_iload dX10_nights_173 hl135 ?_
                    refine q_callVi hE (M' := mX10_answered) (as := [_]) dX10_nights_175 lk10_109 inX10_answered seX10_answered myX10_answered (by decide) ⟨by decide, by decide⟩ rfl (kR1 hS139.1 ta0) (Nat.le_of_ble_eq_true rfl) rfl rfl (by decide) (by decide) (fk_X10_answered hS139.1  ta0) ?_
                    rintro v154 cn' K' N' I149 R150 L151 ⟨rfl, rfl, rfl, rfl, rfl, g152, p155, p156, -⟩
                    have hS157 := hS139.tr g152 (by decide +kernel) (by decide +kernel)
                    obtain ⟨v158, c159⟩ : ∃ v, I149 a0 17 = v := ⟨_, rfl⟩
                    rw [c159] at p156
                    exact tr_iret hZ dX10_nights_178 rfl (by decide) (by decide) ⟨v154, rfl, rfl, rfl, rfl, rfl, hS157, (SkQ.st rw144 hW0 ta0 g152 (by decide +kernel) (by decide +kernel)), (NgQ.st rw145 hS139.1 ta0 g152 (by decide +kernel) (by decide +kernel) (by decide +kernel)), (Or.inr (⟨(by (try rw [c2]); first | done | with_reducible assumption | omega), trivial⟩)), trivial⟩
                  · skip
                    refine tr_aload_n dX10_nights_74 hl131 ?_
                    refine tr_getR dX10_nights_75 fl10_62 (kR1 hS139.1 ta0) ((hS139.rcell ta0 (by decide +kernel)).trans d114) ?_
                    refine q_iconst dX10_nights_78 (by decide) ?_
                    intro v160 h161
                    refine q_putI dX10_nights_79 fl10_272 (kR9 hS139.1 ta113) (Or.inl rfl) hS139 ta113 (by show (0 : Int) ≤ v160.toInt ∧ v160.toInt ≤ (6 : Int); omega) rfl (by decide +kernel) ?_
                    intro I162 hS163 e164 f165
                    refine q_iconst dX10_nights_82 (by decide) ?_
                    intro v166 h167
                    refine tr_istore dX10_nights_83 (by decide) (by decide) ?_
                    have lp183 : ∀ (fu : Nat) (ls : Nat → Option Value) (v168 : Int32) (I176 : cz_I) (R177 : cz_R), ls 0 = some (.ref a0) → ls 1 = some (.int x1) → ls 2 = some (.int x2) → ls 3 = some (.int x3) → ls 4 = some (.int v129) → ls 5 = some (.int v130) → ls 6 = some (.int v168) → St T cn K N d wik_X10_nights wrk_X10_nights I0 R0 I176 R177 → 0 ≤ v168.toInt → v168.toInt ≤ 6 → (SkQ I176 R0 a0 gX) → (NgQ I176 R177 a0 gX gE gc) → (-v168.toInt + 2147483647).toNat < fu → Tr X mX10_nights 85 ls [] cn K N I176 R177 L0 0 0 := by
                      intro fu
                      induction fu with
                      | zero => intros; rename_i hz; exact absurd hz (Nat.not_lt_zero _)
                      | succ fu ih183 =>
                        intro ls v168 I176 R177 hl169 hl170 hl171 hl172 hl173 hl174 hl175 hS178 g179 g180 rw181 rw182 hm183
                        refine tr_iload dX10_nights_85 hl175 ?_
                        refine tr_iload_n dX10_nights_87 hl172 ?_
                        refine q_icmp_ge 112 dX10_nights_88 (by decide) (fun h185 => ?_) (fun h185 => ?_)
                        · skip
                          refine tr_aload_n dX10_nights_112 hl169 ?_
                          refine tr_getR dX10_nights_113 fl10_65 (kR1 hS178.1 ta0) ((hS178.rcell ta0 (by decide +kernel)).trans d13) ?_
                          refine tr_aload_n dX10_nights_116 hl169 ?_
                          refine tr_getR dX10_nights_117 fl10_16 (kR1 hS178.1 ta0) ((hS178.rcell ta0 (by decide +kernel)).trans d5) ?_
                          refine tr_aload_n dX10_nights_120 hl169 ?_
                          refine tr_getR dX10_nights_121 fl10_62 (kR1 hS178.1 ta0) ((hS178.rcell ta0 (by decide +kernel)).trans d114) ?_
                          refine q_iconst dX10_nights_124 (by decide) ?_
                          intro v186 h187
                          refine q_callVv hE (M' := mX8_build) (as := [_, _, _]) dX10_nights_125 lk10_237 inX8_build seX8_build myX8_build (by decide) ⟨by decide, by decide⟩ rfl (kR12 hS178.1 ta12) (Nat.le_of_ble_eq_true rfl) rfl rfl (by decide) (by decide) (fk_X8_build_1 hS178.1 (XO I176 R177 a4 a113 gX) ta12 ta4 ta113 (EvX.oth ((EvQ.rc (EvQ.st hX hW0 ta0 hS178 (by decide +kernel)) hW0 ta0 (R13 hS178 (by decide +kernel))) _ _ ((hS178.rcell ta0 (by decide +kernel)).trans d5) ((hS178.rcell ta0 (by decide +kernel)).trans d7)) (by rw [((hS178.cell ta4 (by decide +kernel)).trans c23)]; omega))) ?_
                          rintro cn' K' N' I188 R189 L190 ⟨rfl, rfl, rfl, rfl, rfl, g191, rp194, rp195, rp196, rp197, -⟩
                          have hS198 := hS178.tr g191 (by decide +kernel) (by decide +kernel)
                          refine tr_aload_n dX10_nights_128 hl169 ?_
                          refine tr_getR dX10_nights_129 fl10_68 (kR1 hS198.1 ta0) ((hS198.rcell ta0 (by decide +kernel)).trans d15) ?_
                          refine tr_aload_n dX10_nights_132 hl169 ?_
                          refine tr_getR dX10_nights_133 fl10_16 (kR1 hS198.1 ta0) ((hS198.rcell ta0 (by decide +kernel)).trans d5) ?_
                          refine tr_aload_n dX10_nights_136 hl169 ?_
                          refine tr_getR dX10_nights_137 fl10_65 (kR1 hS198.1 ta0) ((hS198.rcell ta0 (by decide +kernel)).trans d13) ?_
                          refine tr_aload_n dX10_nights_140 hl169 ?_
                          refine tr_getR dX10_nights_141 fl10_35 (kR1 hS198.1 ta0) ((hS198.rcell ta0 (by decide +kernel)).trans d7) ?_
                          refine q_getI dX10_nights_144 fl10_181 (kR8 hS198.1 ta6) ((hS198.cell ta6 (by decide +kernel)).trans c35) ?_
                          have hm199 : 0 ≤ (I188 a6 0).toInt ∧ (I188 a6 0).toInt ≤ 63 := by rw [hS198.cell ta6 (by decide +kernel)]; exact hMs _ d7
                          rw [((hS198.cell ta6 (by decide +kernel)).trans c35)] at hm199
                          refine tr_aload_n dX10_nights_147 hl169 ?_
                          refine q_callVi hE (M' := mX10_allTurners) (as := []) dX10_nights_148 lk10_184 inX10_allTurners seX10_allTurners myX10_allTurners (by decide) ⟨by decide, by decide⟩ rfl (kR1 hS198.1 ta0) (Nat.le_of_ble_eq_true rfl) rfl rfl (by decide) (by decide) (fk_X10_allTurners hS198.1  ta0) ?_
                          rintro v205 cn' K' N' I200 R201 L202 ⟨rfl, rfl, rfl, rfl, rfl, rfl, rp206, -⟩
                          have ht207 := rp206 _ ((hS198.rcell ta0 (by decide +kernel)).trans d5)
                          rw [((hS198.cell ta4 (by decide +kernel)).trans c29)] at ht207
                          have ht207b := pw_all (c := v28.toInt) (by omega) (by omega)
                          have hz208m : nzM (mkZ (XO I176 R177 a4 a113 gX) (-1) ((I176 a4 3).toInt.toNat + (I176 a113 2).toInt.toNat) gE gc v34.toInt v205.toInt) = v34.toInt := rfl
                          have hz208w : nzW (mkZ (XO I176 R177 a4 a113 gX) (-1) ((I176 a4 3).toInt.toNat + (I176 a113 2).toInt.toNat) gE gc v34.toInt v205.toInt) = v205.toInt := rfl
                          have ks209 : SkZ I188 R177 a12 (mkZ (XO I176 R177 a4 a113 gX) (-1) ((I176 a4 3).toInt.toNat + (I176 a113 2).toInt.toNat) gE gc v34.toInt v205.toInt) := SkZ.bld hS178.1 ta4 ((hEa _ d5).gs hW0 ta4 hS178 (by decide +kernel) (by decide +kernel)) hGd (by rw [show (-1 : Int) = v186.toInt by omega]; exact rp194) rp196 (by rw [show (-1 : Int) = v186.toInt by omega]; exact rp197)
                          refine q_callVv hE (M' := mX5_play) (as := [_, _, _, _]) dX10_nights_151 lk10_188 inX5_play seX5_play myX5_play (by decide) ⟨by decide, by decide⟩ rfl (kR13 hS198.1 ta14) (Nat.le_of_ble_eq_true rfl) rfl rfl (by decide) (by decide) (fk_X5_play hS198.1 ((mkZ (XO I176 R177 a4 a113 gX) (-1) ((I176 a4 3).toInt.toNat + (I176 a113 2).toInt.toNat) gE gc v34.toInt v205.toInt)) ta14 ta4 ta12 (by omega) (by omega) ((hEa _ d5).gs hW0 ta4 hS198 (by decide +kernel) (by decide +kernel)) ks209 (hGd _ _ _ _ _ (by omega) (by omega)) (by first | done | with_reducible assumption | omega) (by first | done | with_reducible assumption | omega)) ?_
                          rintro cn' K' N' I210 R211 L212 ⟨rfl, rfl, rfl, rfl, g213, rp216, rp217, rp218, rp219, rp220, rp221, -⟩
                          have hS222 := hS198.tr g213 (by decide +kernel) (by decide +kernel)
                          have hp223P : NgP I210 R211 a14 (mkZ (XO I176 R177 a4 a113 gX) (-1) ((I176 a4 3).toInt.toNat + (I176 a113 2).toInt.toNat) gE gc v34.toInt v205.toInt) := NgP.mk ((hEa _ d5).gs hW0 ta4 hS198 (by decide +kernel) (by decide +kernel)) ks209 g213 hS198.1 ta14 ta4 ta12 rp216 rp217 (congrArg Int32.toInt rp218) (by decide +kernel) (by decide +kernel)
                          have hp223R : NgR I210 R211 a14 (mkZ (XO I176 R177 a4 a113 gX) (-1) ((I176 a4 3).toInt.toNat + (I176 a113 2).toInt.toNat) gE gc v34.toInt v205.toInt) (gc 0).toNat := rp219.rc (fun k k1 k2 => R13w g213 (by decide +kernel) ta14 k1 k2)
                          have hp223G : GdN (mkZ (XO I176 R177 a4 a113 gX) (-1) ((I176 a4 3).toInt.toNat + (I176 a113 2).toInt.toNat) gE gc v34.toInt v205.toInt) := hGd _ _ _ _ _ (by omega) (by omega)
                          refine tr_iload dX10_nights_154 hl173 ?_
                          refine tr_aload_n dX10_nights_156 hl169 ?_
                          refine tr_getR dX10_nights_157 fl10_68 (kR1 hS222.1 ta0) ((hS222.rcell ta0 (by decide +kernel)).trans d15) ?_
                          refine q_callVi hE (M' := mX5_sum) (as := []) dX10_nights_160 lk10_192 inX5_sum seX5_sum myX5_sum (by decide) ⟨by decide, by decide⟩ rfl (kR13 hS222.1 ta14) (Nat.le_of_ble_eq_true rfl) rfl rfl (by decide) (by decide) (fk_X5_sum hS222.1 ((mkZ (XO I176 R177 a4 a113 gX) (-1) ((I176 a4 3).toInt.toNat + (I176 a113 2).toInt.toNat) gE gc v34.toInt v205.toInt)) ta14 hp223P hp223G hp223R h1) ?_
                          rintro v229 cn' K' N' I224 R225 L226 ⟨rfl, rfl, rfl, rfl, rfl, rfl, h230, rp231, -⟩
                          refine q_iaddE dX10_nights_163 (by intros; omega) ?_
                          intro v232 h233
                          refine tr_istore dX10_nights_164 (by decide) (by decide) ?_
                          refine q_iincE dX10_nights_166 hl174 (by decide) (by decide) (by intros; omega) ?_
                          intro v234 h235
                          refine tr_goto 68 dX10_nights_169 (by decide) ?_
                          exact ih146 _ v232 v234 I210 R211 hl169 hl170 hl171 hl172 rfl rfl hS222 (by omega) (by omega) (by omega) (by omega) (SkQ.st (SkQ.fs rw181 hW0 ta0 g191 hD d13 (FrS.rc rp195 (fun k => (R13 hS178 (by decide +kernel) _ k (by rw [ta12]; decide)).symm)) (by decide +kernel) (by decide +kernel)) hW0 ta0 g213 (by decide +kernel) (by decide +kernel)) (NgQ.fn (NgQ.fs rw182 hS178.1 ta0 g191 (DjS.rc hD hW0 ta0 (R13 hS178 (by decide +kernel))) ((R13 hS178 (by decide +kernel) a0 13 (by rw [ta0]; decide)).trans d13) rp195 (by decide +kernel) (by decide +kernel) (by decide +kernel)) hS178.1 ta0 g213 (DjN.st hDn hW0 ta0 hS198 (by decide +kernel) (by decide +kernel)) ((R13 hS198 (by decide +kernel) a0 14 (by rw [ta0]; decide)).trans d15) rp220 rp221 (by decide +kernel) (by decide +kernel) (by decide +kernel)) (by omega)
                        · skip
                          refine tr_aload_n dX10_nights_91 hl169 ?_
                          refine tr_getR dX10_nights_92 fl10_62 (kR1 hS178.1 ta0) ((hS178.rcell ta0 (by decide +kernel)).trans d114) ?_
                          refine tr_aload_n dX10_nights_95 hl169 ?_
                          refine tr_getR dX10_nights_96 fl10_16 (kR1 hS178.1 ta0) ((hS178.rcell ta0 (by decide +kernel)).trans d5) ?_
                          refine q_getI dX10_nights_99 fl10_146 (kR2 hS178.1 ta4) ((hS178.cell ta4 (by decide +kernel)).trans c17) ?_
                          refine q_callVi hE (M' := mX3_addDrawn) (as := [_]) dX10_nights_102 lk10_275 inX3_addDrawn seX3_addDrawn myX3_addDrawn (by decide) ⟨by decide, by decide⟩ rfl (kR9 hS178.1 ta113) (Nat.le_of_ble_eq_true rfl) rfl rfl (by decide) (by decide) (k_X3_addDrawn hS178.1 ta113 (by omega)) ?_
                          rintro v240 cn' K' N' I236 R237 L238 ⟨rfl, rfl, rfl, rfl, rfl, g239, h241, -⟩
                          have hS242 := hS178.tr g239 (by decide +kernel) (by decide +kernel)
                          refine tr_pop dX10_nights_105 rfl ?_
                          refine q_iincE dX10_nights_106 hl175 (by decide) (by decide) (by intros; omega) ?_
                          intro v243 h244
                          refine tr_goto 85 dX10_nights_109 (by decide) ?_
                          exact ih183 _ v243 I236 R177 hl169 hl170 hl171 hl172 hl173 hl174 rfl hS242 (by omega) (by omega) (SkQ.st rw181 hW0 ta0 g239 (by decide +kernel) (by decide +kernel)) (NgQ.st rw182 hS178.1 ta0 g239 (by decide +kernel) (by decide +kernel) (by decide +kernel)) (by omega)
                    exact lp183 _ _ v166 I162 R138 hl131 hl132 hl133 hl134 hl135 hl136 rfl hS163 (by omega) (by omega) (SkQ.put rw144 hW0 ta0 f165 ta113 (by decide) (fun q => by have z := ta0; rw [q.1, ta113] at z; exact absurd z (by decide))) (NgQ.put rw145 hS139.1 ta0 f165 ta113 (by decide) (fun q => by have z := ta0; rw [q.1, ta113] at z; exact absurd z (by decide)) (fun q => by have z := ta0; rw [q.1, ta113] at z; exact absurd z (by decide))) (Nat.lt_succ_self _)
              exact lp146 _ _ v125 v127 I121 R0 rfl rfl rfl rfl rfl rfl hS122 (by omega) (by omega) (by omega) (by omega) (SkQ.put (SkQ.st hK hW0 ta0 g118 (by decide +kernel) (by decide +kernel)) hW0 ta0 f124 ta113 (by decide) (fun q => by have z := ta0; rw [q.1, ta113] at z; exact absurd z (by decide))) (NgQ.put (NgQ.st hNg hW0 ta0 g118 (by decide +kernel) (by decide +kernel) (by decide +kernel)) hW0 ta0 f124 ta113 (by decide) (fun q => by have z := ta0; rw [q.1, ta113] at z; exact absurd z (by decide)) (fun q => by have z := ta0; rw [q.1, ta113] at z; exact absurd z (by decide))) (Nat.lt_succ_self _)
            · skip
              refine tr_aload_n dX10_nights_41 rfl ?_
              refine q_iconst dX10_nights_42 (by decide) ?_
              intro v245 h246
              refine q_callVi hE (M' := mX10_refusedTotal) (as := [_]) dX10_nights_43 lk10_178 inX10_refusedTotal seX10_refusedTotal myX10_refusedTotal (by decide) ⟨by decide, by decide⟩ rfl (kR1 hS0.1 ta0) (Nat.le_of_ble_eq_true rfl) rfl rfl (by decide) (by decide) (fk_X10_refusedTotal hS0.1  ta0) ?_
              rintro v252 cn' K' N' I247 R248 L249 ⟨rfl, rfl, rfl, rfl, rfl, g250, p253, p254, -⟩
              have hS255 := hS0.tr g250 (by decide +kernel) (by decide +kernel)
              obtain ⟨v256, c257⟩ : ∃ v, I247 a0 17 = v := ⟨_, rfl⟩
              rw [c257] at p254
              exact tr_iret hZ dX10_nights_46 rfl (by decide) (by decide) ⟨v252, rfl, rfl, rfl, rfl, rfl, hS255, (SkQ.st hK hW0 ta0 g250 (by decide +kernel) (by decide +kernel)), (NgQ.st hNg hW0 ta0 g250 (by decide +kernel) (by decide +kernel) (by decide +kernel)), (Or.inr (⟨(by (try rw [c2]); first | done | with_reducible assumption | omega), trivial⟩)), trivial⟩
  · skip
    refine tr_aload_n dX10_nights_7 rfl ?_
    refine q_iconst dX10_nights_8 (by decide) ?_
    intro v258 h259
    refine q_callVi hE (M' := mX10_refusedTotal) (as := [_]) dX10_nights_9 lk10_178 inX10_refusedTotal seX10_refusedTotal myX10_refusedTotal (by decide) ⟨by decide, by decide⟩ rfl (kR1 hS0.1 ta0) (Nat.le_of_ble_eq_true rfl) rfl rfl (by decide) (by decide) (fk_X10_refusedTotal hS0.1  ta0) ?_
    rintro v265 cn' K' N' I260 R261 L262 ⟨rfl, rfl, rfl, rfl, rfl, g263, p266, p267, -⟩
    have hS268 := hS0.tr g263 (by decide +kernel) (by decide +kernel)
    obtain ⟨v269, c270⟩ : ∃ v, I260 a0 17 = v := ⟨_, rfl⟩
    rw [c270] at p267
    exact tr_iret hZ dX10_nights_12 rfl (by decide) (by decide) ⟨v265, rfl, rfl, rfl, rfl, rfl, hS268, (SkQ.st hK hW0 ta0 g263 (by decide +kernel) (by decide +kernel)), (NgQ.st hNg hW0 ta0 g263 (by decide +kernel) (by decide +kernel) (by decide +kernel)), (Or.inl ⟨(by (try rw [c2]); first | done | with_reducible assumption | omega), (by first | done | with_reducible assumption | omega), trivial⟩), trivial⟩
