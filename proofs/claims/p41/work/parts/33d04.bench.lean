set_option maxHeartbeats 4000000 in
theorem fk_X10_changes {l : Launch} {T : Nat → Nat} {cn : Nat} {K N : Nat → Nat} {I0 : cz_I} {R0 : cz_R} {L0 : cz_L} {d : Int} (hW0 : Wf T cn K N I0 R0 d) (gX : Nat → Nat → Int) {a0 : Nat} (ta0 : T a0 = 1) {x1 : Int32} {x2 : Int32} (hx2 : 0 ≤ x2.toInt ∧ x2.toInt ≤ 1) (hX : EvQ I0 R0 a0 gX) (hK : SkQ I0 R0 a0 gX) (hD : DjS R0 a0) : ConE l mX10_changes [.ref a0, .int x1, .int x2] cn K N I0 R0 L0 (ca_i (fun v cn' K' N' I' R' L' => cn = cn' ∧ K = K' ∧ N = N' ∧ R0 = R' ∧ L0 = L' ∧ St T cn K N d wik_X10_changes wrk_X10_changes I0 R0 I' R0 ∧ (SkQ I' R0 a0 gX) ∧ Cs_X10_changes T I0 R0 a0 gX x1 x2 v I' R0 ∧ True)) := by
  refine ConE.of (by decide +kernel) rfl (Nat.le_of_ble_eq_true rfl) rfl (fun X hX hZ hE => ?_)
  subst hX
  have hS0 : St T cn K N d wik_X10_changes wrk_X10_changes I0 R0 I0 R0 := St.rf0 hW0
  obtain ⟨a1, d2, ta1⟩ := rf1_2 hW0 ta0
  obtain ⟨v3, c4⟩ : ∃ v, I0 a1 1 = v := ⟨_, rfl⟩
  have b5 := iv2_1 hW0 ta1 c4
  obtain ⟨v6, c7⟩ : ∃ v, I0 a1 0 = v := ⟨_, rfl⟩
  have b8 := iv2_0 hW0 ta1 c7
  obtain ⟨a9, d10, ta9⟩ := rf1_6 hW0 ta0
  obtain ⟨a11, d12, ta11⟩ := rf1_8 hW0 ta0
  obtain ⟨a13, d14, ta13⟩ := rf1_13 hW0 ta0
  obtain ⟨v15, c16⟩ : ∃ v, I0 a1 3 = v := ⟨_, rfl⟩
  have b17 := iv2_3 hW0 ta1 c16
  refine tr_aload_n dX10_changes_0 rfl ?_
  refine tr_iload_n dX10_changes_1 rfl ?_
  refine q_callVi hE (M' := mX10_isHut) (as := [_]) dX10_changes_2 lk10_126 inX10_isHut seX10_isHut myX10_isHut (by decide) ⟨by decide, by decide⟩ rfl (kR1 hS0.1 ta0) (Nat.le_of_ble_eq_true rfl) rfl rfl (by decide) (by decide) (fk_X10_isHut hS0.1  ta0) ?_
  rintro v23 cn' K' N' I18 R19 L20 ⟨rfl, rfl, rfl, rfl, rfl, rfl, h24, p25, p26, -⟩
  have p27 := p25 _ d2
  clear p25
  rw [c4] at p27
  have p28 := p26 _ d2
  clear p26
  rw [c4] at p28
  refine q_if_ne 14 dX10_changes_5 (by decide) (fun h29 => ?_) (fun h29 => ?_)
  · skip
    refine tr_aload_n dX10_changes_14 rfl ?_
    refine q_callVr hE (M' := mX10_presentSky) (as := []) dX10_changes_15 lk10_119 inX10_presentSky seX10_presentSky myX10_presentSky (by decide) ⟨by decide, by decide⟩ rfl (kR1 hS0.1 ta0) (Nat.le_of_ble_eq_true rfl) rfl rfl (by decide) (by decide) (fk_X10_presentSky hS0.1 (gX) ta0 hX hK hD) ?_
    rintro a35 cn' K' N' I30 R31 L32 ⟨rfl, rfl, rfl, rfl, rfl, g33, ta35, p36, rp37, rp38, rp39, -⟩
    have hS40 := hS0.tr g33 (by decide +kernel) (by decide +kernel)
    obtain ⟨v41, c42⟩ : ∃ v, I30 a0 9 = v := ⟨_, rfl⟩
    have b43 := iv1_9 hS40.1 ta0 c42
    rw [c42] at p36
    have hz44 := rp39 _ _ _ rp37 d2 d10
    refine tr_astore_n dX10_changes_18 (by decide) (by decide) ?_
    refine tr_iload_n dX10_changes_19 rfl ?_
    refine q_if_eq 30 dX10_changes_20 (by decide) (fun h45 => ?_) (fun h45 => ?_)
    · skip
      refine tr_aload_n dX10_changes_30 rfl ?_
      obtain ⟨a46, d47, ta46⟩ := rf12_8 hW0 ta35
      refine tr_getR dX10_changes_31 fl10_143 (kR12 hS40.1 ta35) d47 ?_
      refine tr_astore dX10_changes_34 (by decide) (by decide) ?_
      refine q_iconst dX10_changes_36 (by decide) ?_
      intro v48 h49
      refine tr_istore dX10_changes_37 (by decide) (by decide) ?_
      refine q_iconst dX10_changes_39 (by decide) ?_
      intro v50 h51
      refine tr_istore dX10_changes_40 (by decide) (by decide) ?_
      have lp70 : ∀ (fu : Nat) (ls : Nat → Option Value) (v52 : Int32) (v53 : Int32) (I61 : cz_I), ls 0 = some (.ref a0) → ls 1 = some (.int x1) → ls 2 = some (.int x2) → ls 3 = some (.ref a35) → ls 4 = some (.ref a46) → ls 5 = some (.int v52) → ls 6 = some (.int v53) → St T cn K N d wik_X10_changes wrk_X10_changes I0 R0 I61 R0 → v53.toInt ≤ v6.toInt → 0 ≤ v52.toInt → v52.toInt ≤ v53.toInt → v52.toInt ≤ 240 → (v52.toInt = cnM (fun k => skC gX (-1) ((I0 a1 3).toInt.toNat + (I0 a9 2).toInt.toNat) (I0 a1 1).toInt x1.toInt (k : Int)) v53.toInt.toNat) → (SkF I61 R0 a35 (I0 a1 0).toInt (I0 a1 1).toInt (-1) gX ((I0 a1 3).toInt.toNat + (I0 a9 2).toInt.toNat) (I0 a1 0).toInt) → (SkQ I61 R0 a0 gX) → (-v53.toInt + 2147483647).toNat < fu → Tr X mX10_changes 42 ls [] cn K N I61 R0 L0 0 0 := by
        intro fu
        induction fu with
        | zero => intros; rename_i hz; exact absurd hz (Nat.not_lt_zero _)
        | succ fu ih70 =>
          intro ls v52 v53 I61 hl54 hl55 hl56 hl57 hl58 hl59 hl60 hS62 g63 g64 g65 g66 rw67 rw68 rw69 hm70
          refine tr_iload dX10_changes_42 hl60 ?_
          refine tr_aload_n dX10_changes_44 hl54 ?_
          refine tr_getR dX10_changes_45 fl10_16 (kR1 hS62.1 ta0) d2 ?_
          refine q_getI dX10_changes_48 fl10_146 (kR2 hS62.1 ta1) ((hS62.cell ta1 (by decide +kernel)).trans c7) ?_
          refine q_icmp_ge 74 dX10_changes_51 (by decide) (fun h72 => ?_) (fun h72 => ?_)
          · skip
            refine tr_aload_n dX10_changes_74 hl54 ?_
            refine tr_iload dX10_changes_75 hl59 ?_
            refine q_callVi hE (M' := mX10_answered) (as := [_]) dX10_changes_77 lk10_109 inX10_answered seX10_answered myX10_answered (by decide) ⟨by decide, by decide⟩ rfl (kR1 hS62.1 ta0) (Nat.le_of_ble_eq_true rfl) rfl rfl (by decide) (by decide) (fk_X10_answered hS62.1  ta0) ?_
            rintro v78 cn' K' N' I73 R74 L75 ⟨rfl, rfl, rfl, rfl, rfl, g76, p79, p80, -⟩
            have hS81 := hS62.tr g76 (by decide +kernel) (by decide +kernel)
            obtain ⟨v82, c83⟩ : ∃ v, I73 a0 17 = v := ⟨_, rfl⟩
            rw [c83] at p80
            exact tr_iret hZ dX10_changes_80 rfl (by decide) (by decide) ⟨v78, rfl, rfl, rfl, rfl, rfl, rfl, hS81, (SkQ.st rw69 hW0 ta0 g76 (by decide +kernel) (by decide +kernel)), (Or.inr (⟨(by first | done | with_reducible assumption | omega), (fun q0 z0 => by obtain rfl := Option.some.inj ((d2).symm.trans z0); (try rw [c4]); first | done | with_reducible assumption | omega), (fun al nw h2 h6 => by obtain rfl := Option.some.inj (d2.symm.trans h2); obtain rfl := Option.some.inj (d10.symm.trans h6); rw [if_neg (by omega)]; have w := rw67; rw [show v53.toInt.toNat = (I0 a1 0).toInt.toNat from congrArg Int.toNat (by rw [c7]; omega)] at w; omega), trivial⟩)), trivial⟩
          · skip
            refine tr_iload dX10_changes_54 hl59 ?_
            refine tr_aload dX10_changes_56 hl58 ?_
            refine tr_iload dX10_changes_58 hl60 ?_
            refine q_iald dX10_changes_60 (kR41 hS62.1 ta46) (ti_in (nR41 hS62.1 ta46) (by omega) (by omega)) ?_
            intro v84 c85
            have hb86 := rw68.2.2.2.2.2.2.1 _ d47 v53.toInt.toNat (by rw [c7]; omega)
            rw [show I61 a46 v53.toInt.toNat = v84 from c85] at hb86
            have hb86r := And.intro hb86.1 hb86.2.1
            refine tr_iload_n dX10_changes_61 hl55 ?_
            refine q_callSi hE (M' := mX10_bit) (as := [_, _]) dX10_changes_62 lk10_136 inX10_bit myX10_bit ⟨by decide, by decide⟩ rfl (Nat.le_of_ble_eq_true rfl) rfl rfl (by decide) (by decide) (f_X10_bitW   (by omega) (by omega)) ?_
            rintro v92 cn' K' N' I87 R88 L89 ⟨rfl, rfl, rfl, rfl, rfl, rfl, p93, -⟩
            have btv92 := bt_01 v84.toInt x1.toInt
            refine q_iaddE dX10_changes_65 (by intros; omega) ?_
            intro v94 h95
            refine tr_istore dX10_changes_66 (by decide) (by decide) ?_
            refine q_iincE dX10_changes_68 hl60 (by decide) (by decide) (by intros; omega) ?_
            intro v96 h97
            refine tr_goto 42 dX10_changes_71 (by decide) ?_
            exact ih70 _ v94 v96 I61 hl54 hl55 hl56 hl57 hl58 rfl rfl hS62 (by omega) (by omega) (by omega) (by omega) (by have e : bt _ _ = skC _ _ _ _ _ _ := hb86.2.2 x1.toInt.toNat (by omega); rw [show ((x1.toInt.toNat : Nat) : Int) = x1.toInt by omega] at e; rw [show v96.toInt.toNat = v53.toInt.toNat + 1 by omega, cnM]; have w := rw67; omega) rw68 rw69 (by omega)
      exact lp70 _ _ v48 v50 I30 rfl rfl rfl rfl rfl rfl rfl hS40 (by omega) (by omega) (by omega) (by omega) (by rw [show v50.toInt.toNat = 0 by omega]; show _ = (0 : Int); omega) hz44 (SkQ.of rp38) (Nat.lt_succ_self _)
    · skip
      refine tr_aload_n dX10_changes_23 rfl ?_
      obtain ⟨a98, d99, ta98⟩ := rf12_9 hW0 ta35
      refine tr_getR dX10_changes_24 fl10_140 (kR12 hS40.1 ta35) d99 ?_
      refine tr_goto 34 dX10_changes_27 (by decide) ?_
      refine tr_astore dX10_changes_34 (by decide) (by decide) ?_
      refine q_iconst dX10_changes_36 (by decide) ?_
      intro v100 h101
      refine tr_istore dX10_changes_37 (by decide) (by decide) ?_
      refine q_iconst dX10_changes_39 (by decide) ?_
      intro v102 h103
      refine tr_istore dX10_changes_40 (by decide) (by decide) ?_
      have lp122 : ∀ (fu : Nat) (ls : Nat → Option Value) (v104 : Int32) (v105 : Int32) (I113 : cz_I), ls 0 = some (.ref a0) → ls 1 = some (.int x1) → ls 2 = some (.int x2) → ls 3 = some (.ref a35) → ls 4 = some (.ref a98) → ls 5 = some (.int v104) → ls 6 = some (.int v105) → St T cn K N d wik_X10_changes wrk_X10_changes I0 R0 I113 R0 → v105.toInt ≤ v6.toInt → 0 ≤ v104.toInt → v104.toInt ≤ v105.toInt → v104.toInt ≤ 240 → (v104.toInt = cnM (fun k => skT gX (-1) ((I0 a1 3).toInt.toNat + (I0 a9 2).toInt.toNat) (I0 a1 1).toInt x1.toInt (k : Int)) v105.toInt.toNat) → (SkF I113 R0 a35 (I0 a1 0).toInt (I0 a1 1).toInt (-1) gX ((I0 a1 3).toInt.toNat + (I0 a9 2).toInt.toNat) (I0 a1 0).toInt) → (SkQ I113 R0 a0 gX) → (-v105.toInt + 2147483647).toNat < fu → Tr X mX10_changes 42 ls [] cn K N I113 R0 L0 0 0 := by
        intro fu
        induction fu with
        | zero => intros; rename_i hz; exact absurd hz (Nat.not_lt_zero _)
        | succ fu ih122 =>
          intro ls v104 v105 I113 hl106 hl107 hl108 hl109 hl110 hl111 hl112 hS114 g115 g116 g117 g118 rw119 rw120 rw121 hm122
          refine tr_iload dX10_changes_42 hl112 ?_
          refine tr_aload_n dX10_changes_44 hl106 ?_
          refine tr_getR dX10_changes_45 fl10_16 (kR1 hS114.1 ta0) d2 ?_
          refine q_getI dX10_changes_48 fl10_146 (kR2 hS114.1 ta1) ((hS114.cell ta1 (by decide +kernel)).trans c7) ?_
          refine q_icmp_ge 74 dX10_changes_51 (by decide) (fun h124 => ?_) (fun h124 => ?_)
          · skip
            refine tr_aload_n dX10_changes_74 hl106 ?_
            refine tr_iload dX10_changes_75 hl111 ?_
            refine q_callVi hE (M' := mX10_answered) (as := [_]) dX10_changes_77 lk10_109 inX10_answered seX10_answered myX10_answered (by decide) ⟨by decide, by decide⟩ rfl (kR1 hS114.1 ta0) (Nat.le_of_ble_eq_true rfl) rfl rfl (by decide) (by decide) (fk_X10_answered hS114.1  ta0) ?_
            rintro v130 cn' K' N' I125 R126 L127 ⟨rfl, rfl, rfl, rfl, rfl, g128, p131, p132, -⟩
            have hS133 := hS114.tr g128 (by decide +kernel) (by decide +kernel)
            obtain ⟨v134, c135⟩ : ∃ v, I125 a0 17 = v := ⟨_, rfl⟩
            rw [c135] at p132
            exact tr_iret hZ dX10_changes_80 rfl (by decide) (by decide) ⟨v130, rfl, rfl, rfl, rfl, rfl, rfl, hS133, (SkQ.st rw121 hW0 ta0 g128 (by decide +kernel) (by decide +kernel)), (Or.inr (⟨(by first | done | with_reducible assumption | omega), (fun q0 z0 => by obtain rfl := Option.some.inj ((d2).symm.trans z0); (try rw [c4]); first | done | with_reducible assumption | omega), (fun al nw h2 h6 => by obtain rfl := Option.some.inj (d2.symm.trans h2); obtain rfl := Option.some.inj (d10.symm.trans h6); rw [if_pos (by omega)]; have w := rw119; rw [show v105.toInt.toNat = (I0 a1 0).toInt.toNat from congrArg Int.toNat (by rw [c7]; omega)] at w; omega), trivial⟩)), trivial⟩
          · skip
            refine tr_iload dX10_changes_54 hl111 ?_
            refine tr_aload dX10_changes_56 hl110 ?_
            refine tr_iload dX10_changes_58 hl112 ?_
            refine q_iald dX10_changes_60 (kR42 hS114.1 ta98) (ti_in (nR42 hS114.1 ta98) (by omega) (by omega)) ?_
            intro v136 c137
            have hb138 := rw120.2.2.2.2.2.2.2 _ d99 v105.toInt.toNat (by rw [c7]; omega)
            rw [show I113 a98 v105.toInt.toNat = v136 from c137] at hb138
            have hb138r := And.intro hb138.1 hb138.2.1
            refine tr_iload_n dX10_changes_61 hl107 ?_
            refine q_callSi hE (M' := mX10_bit) (as := [_, _]) dX10_changes_62 lk10_136 inX10_bit myX10_bit ⟨by decide, by decide⟩ rfl (Nat.le_of_ble_eq_true rfl) rfl rfl (by decide) (by decide) (f_X10_bitW   (by omega) (by omega)) ?_
            rintro v144 cn' K' N' I139 R140 L141 ⟨rfl, rfl, rfl, rfl, rfl, rfl, p145, -⟩
            have btv144 := bt_01 v136.toInt x1.toInt
            refine q_iaddE dX10_changes_65 (by intros; omega) ?_
            intro v146 h147
            refine tr_istore dX10_changes_66 (by decide) (by decide) ?_
            refine q_iincE dX10_changes_68 hl112 (by decide) (by decide) (by intros; omega) ?_
            intro v148 h149
            refine tr_goto 42 dX10_changes_71 (by decide) ?_
            exact ih122 _ v146 v148 I113 hl106 hl107 hl108 hl109 hl110 rfl rfl hS114 (by omega) (by omega) (by omega) (by omega) (by have e : bt _ _ = skT _ _ _ _ _ _ := hb138.2.2 x1.toInt.toNat (by omega); rw [show ((x1.toInt.toNat : Nat) : Int) = x1.toInt by omega] at e; rw [show v148.toInt.toNat = v105.toInt.toNat + 1 by omega, cnM]; have w := rw119; omega) rw120 rw121 (by omega)
      exact lp122 _ _ v100 v102 I30 rfl rfl rfl rfl rfl rfl rfl hS40 (by omega) (by omega) (by omega) (by omega) (by rw [show v102.toInt.toNat = 0 by omega]; show _ = (0 : Int); omega) hz44 (SkQ.of rp38) (Nat.lt_succ_self _)
  · skip
    refine tr_aload_n dX10_changes_8 rfl ?_
    refine q_iconst dX10_changes_9 (by decide) ?_
    intro v150 h151
    refine q_callVi hE (M' := mX10_refused) (as := [_]) dX10_changes_10 lk10_79 inX10_refused seX10_refused myX10_refused (by decide) ⟨by decide, by decide⟩ rfl (kR1 hS0.1 ta0) (Nat.le_of_ble_eq_true rfl) rfl rfl (by decide) (by decide) (fk_X10_refused hS0.1  ta0) ?_
    rintro v157 cn' K' N' I152 R153 L154 ⟨rfl, rfl, rfl, rfl, rfl, g155, p158, p159, -⟩
    have hS160 := hS0.tr g155 (by decide +kernel) (by decide +kernel)
    obtain ⟨v161, c162⟩ : ∃ v, I152 a0 17 = v := ⟨_, rfl⟩
    rw [c162] at p159
    exact tr_iret hZ dX10_changes_13 rfl (by decide) (by decide) ⟨v157, rfl, rfl, rfl, rfl, rfl, rfl, hS160, (SkQ.st hK hW0 ta0 g155 (by decide +kernel) (by decide +kernel)), (by first | exact Or.inl ⟨(fun q0 z0 => by obtain rfl := Option.some.inj ((d2).symm.trans z0); (try rw [c4]); first | done | with_reducible assumption | omega), (by first | done | with_reducible assumption | omega), trivial⟩ | exact Or.inr (⟨(by first | done | with_reducible assumption | omega), (fun q0 z0 => by obtain rfl := Option.some.inj ((d2).symm.trans z0); (try rw [c4]); first | done | with_reducible assumption | omega), (by exfalso; omega), trivial⟩)), trivial⟩
def wik_X10_change : List Nat := [73, 81, 768, 769, 778, 2303, 2367, 2431, 2495, 2559, 2623, 2687, 2751, 2815]
def wrk_X10_change : List Nat := []
def Cs_X10_change (T : Nat → Nat) (I0 : cz_I) (R0 : cz_R) (a0 : Nat) (gX : Nat → Nat → Int) (x1 : Int32) (x2 : Int32) (v : Int32) (I' : cz_I) (R' : cz_R) : Prop :=
  ((∀ b1, R0 a0 2 = some b1 → (x1.toInt < 0 ∨ x1.toInt ≥ (I0 b1 1).toInt)) ∧ (v.toInt = -1) ∧ True) ∨
  ((0 ≤ x1.toInt) ∧ (∀ b1, R0 a0 2 = some b1 → x1.toInt < (I0 b1 1).toInt) ∧ (∀ al nw, R0 a0 2 = some al → R0 a0 6 = some nw → Chg (fun k => skC gX (-1) ((I0 al 3).toInt.toNat + (I0 nw 2).toInt.toNat) (I0 al 1).toInt x1.toInt (k : Int)) (I0 al 0).toInt x2.toInt v.toInt) ∧ True)
set_option maxHeartbeats 4000000 in
theorem fk_X10_change {l : Launch} {T : Nat → Nat} {cn : Nat} {K N : Nat → Nat} {I0 : cz_I} {R0 : cz_R} {L0 : cz_L} {d : Int} (hW0 : Wf T cn K N I0 R0 d) (gX : Nat → Nat → Int) {a0 : Nat} (ta0 : T a0 = 1) {x1 : Int32} {x2 : Int32} (hX : EvQ I0 R0 a0 gX) (hK : SkQ I0 R0 a0 gX) (hD : DjS R0 a0) : ConE l mX10_change [.ref a0, .int x1, .int x2] cn K N I0 R0 L0 (ca_i (fun v cn' K' N' I' R' L' => cn = cn' ∧ K = K' ∧ N = N' ∧ R0 = R' ∧ L0 = L' ∧ St T cn K N d wik_X10_change wrk_X10_change I0 R0 I' R0 ∧ (SkQ I' R0 a0 gX) ∧ Cs_X10_change T I0 R0 a0 gX x1 x2 v I' R0 ∧ True)) := by
  refine ConE.of (by decide +kernel) rfl (Nat.le_of_ble_eq_true rfl) rfl (fun X hX hZ hE => ?_)
  subst hX
  have hS0 : St T cn K N d wik_X10_change wrk_X10_change I0 R0 I0 R0 := St.rf0 hW0
  obtain ⟨a1, d2, ta1⟩ := rf1_2 hW0 ta0
  obtain ⟨v3, c4⟩ : ∃ v, I0 a1 1 = v := ⟨_, rfl⟩
  have b5 := iv2_1 hW0 ta1 c4
  obtain ⟨v6, c7⟩ : ∃ v, I0 a1 0 = v := ⟨_, rfl⟩
  have b8 := iv2_0 hW0 ta1 c7
  obtain ⟨a9, d10, ta9⟩ := rf1_6 hW0 ta0
  obtain ⟨a11, d12, ta11⟩ := rf1_8 hW0 ta0
  obtain ⟨a13, d14, ta13⟩ := rf1_13 hW0 ta0
  obtain ⟨v15, c16⟩ : ∃ v, I0 a1 3 = v := ⟨_, rfl⟩
  have b17 := iv2_3 hW0 ta1 c16
  refine tr_aload_n dX10_change_0 rfl ?_
  refine tr_iload_n dX10_change_1 rfl ?_
  refine q_callVi hE (M' := mX10_isHut) (as := [_]) dX10_change_2 lk10_126 inX10_isHut seX10_isHut myX10_isHut (by decide) ⟨by decide, by decide⟩ rfl (kR1 hS0.1 ta0) (Nat.le_of_ble_eq_true rfl) rfl rfl (by decide) (by decide) (fk_X10_isHut hS0.1  ta0) ?_
  rintro v23 cn' K' N' I18 R19 L20 ⟨rfl, rfl, rfl, rfl, rfl, rfl, h24, p25, p26, -⟩
  have p27 := p25 _ d2
  clear p25
  rw [c4] at p27
  have p28 := p26 _ d2
  clear p26
  rw [c4] at p28
  refine q_if_ne 14 dX10_change_5 (by decide) (fun h29 => ?_) (fun h29 => ?_)
  · skip
    refine tr_aload_n dX10_change_14 rfl ?_
    refine q_callVr hE (M' := mX10_presentSky) (as := []) dX10_change_15 lk10_119 inX10_presentSky seX10_presentSky myX10_presentSky (by decide) ⟨by decide, by decide⟩ rfl (kR1 hS0.1 ta0) (Nat.le_of_ble_eq_true rfl) rfl rfl (by decide) (by decide) (fk_X10_presentSky hS0.1 (gX) ta0 hX hK hD) ?_
    rintro a35 cn' K' N' I30 R31 L32 ⟨rfl, rfl, rfl, rfl, rfl, g33, ta35, p36, rp37, rp38, rp39, -⟩
    have hS40 := hS0.tr g33 (by decide +kernel) (by decide +kernel)
    obtain ⟨v41, c42⟩ : ∃ v, I30 a0 9 = v := ⟨_, rfl⟩
    have b43 := iv1_9 hS40.1 ta0 c42
    rw [c42] at p36
    have hz44 := rp39 _ _ _ rp37 d2 d10
    refine tr_astore_n dX10_change_18 (by decide) (by decide) ?_
    refine q_iconst dX10_change_19 (by decide) ?_
    intro v45 h46
    refine tr_istore dX10_change_20 (by decide) (by decide) ?_
    refine q_iconst dX10_change_22 (by decide) ?_
    intro v47 h48
    refine tr_istore dX10_change_23 (by decide) (by decide) ?_
    have lp67 : ∀ (fu : Nat) (ls : Nat → Option Value) (v49 : Int32) (v50 : Int32) (I57 : cz_I), ls 0 = some (.ref a0) → ls 1 = some (.int x1) → ls 2 = some (.int x2) → ls 3 = some (.ref a35) → ls 4 = some (.int v49) → ls 5 = some (.int v50) → St T cn K N d wik_X10_change wrk_X10_change I0 R0 I57 R0 → v50.toInt ≤ v6.toInt → 0 ≤ v50.toInt → 0 ≤ v49.toInt → v49.toInt ≤ v50.toInt → v49.toInt ≤ 240 → (v49.toInt = cnM (fun k => skC gX (-1) ((I0 a1 3).toInt.toNat + (I0 a9 2).toInt.toNat) (I0 a1 1).toInt x1.toInt (k : Int)) v50.toInt.toNat ∧ ∀ k : Nat, (k : Int) < v50.toInt → (fun k => skC gX (-1) ((I0 a1 3).toInt.toNat + (I0 a9 2).toInt.toNat) (I0 a1 1).toInt x1.toInt (k : Int)) k = 1 → ¬ cnM (fun k => skC gX (-1) ((I0 a1 3).toInt.toNat + (I0 a9 2).toInt.toNat) (I0 a1 1).toInt x1.toInt (k : Int)) k = x2.toInt) → (SkF I57 R0 a35 (I0 a1 0).toInt (I0 a1 1).toInt (-1) gX ((I0 a1 3).toInt.toNat + (I0 a9 2).toInt.toNat) (I0 a1 0).toInt) → (SkQ I57 R0 a0 gX) → (-v50.toInt + 2147483647).toNat < fu → Tr X mX10_change 25 ls [] cn K N I57 R0 L0 0 0 := by
      intro fu
      induction fu with
      | zero => intros; rename_i hz; exact absurd hz (Nat.not_lt_zero _)
      | succ fu ih67 =>
        intro ls v49 v50 I57 hl51 hl52 hl53 hl54 hl55 hl56 hS58 g59 g60 g61 g62 g63 rw64 rw65 rw66 hm67
        refine tr_iload dX10_change_25 hl56 ?_
        refine tr_aload_n dX10_change_27 hl51 ?_
        refine tr_getR dX10_change_28 fl10_16 (kR1 hS58.1 ta0) d2 ?_
        refine q_getI dX10_change_31 fl10_146 (kR2 hS58.1 ta1) ((hS58.cell ta1 (by decide +kernel)).trans c7) ?_
        refine q_icmp_ge 74 dX10_change_34 (by decide) (fun h69 => ?_) (fun h69 => ?_)
        · skip
          refine tr_aload_n dX10_change_74 hl51 ?_
          refine q_iconst dX10_change_75 (by decide) ?_
          intro v70 h71
          refine q_callVi hE (M' := mX10_refused) (as := [_]) dX10_change_76 lk10_79 inX10_refused seX10_refused myX10_refused (by decide) ⟨by decide, by decide⟩ rfl (kR1 hS58.1 ta0) (Nat.le_of_ble_eq_true rfl) rfl rfl (by decide) (by decide) (fk_X10_refused hS58.1  ta0) ?_
          rintro v77 cn' K' N' I72 R73 L74 ⟨rfl, rfl, rfl, rfl, rfl, g75, p78, p79, -⟩
          have hS80 := hS58.tr g75 (by decide +kernel) (by decide +kernel)
          obtain ⟨v81, c82⟩ : ∃ v, I72 a0 17 = v := ⟨_, rfl⟩
          rw [c82] at p79
          exact tr_iret hZ dX10_change_79 rfl (by decide) (by decide) ⟨v77, rfl, rfl, rfl, rfl, rfl, rfl, hS80, (SkQ.st rw66 hW0 ta0 g75 (by decide +kernel) (by decide +kernel)), (by first | exact Or.inl ⟨(fun q0 z0 => by obtain rfl := Option.some.inj ((d2).symm.trans z0); (try rw [c4]); first | done | with_reducible assumption | omega), (by first | done | with_reducible assumption | omega), trivial⟩ | exact Or.inr (⟨(by first | done | with_reducible assumption | omega), (fun q0 z0 => by obtain rfl := Option.some.inj ((d2).symm.trans z0); (try rw [c4]); first | done | with_reducible assumption | omega), (fun al nw h2 h6 => by obtain rfl := Option.some.inj (d2.symm.trans h2); obtain rfl := Option.some.inj (d10.symm.trans h6); exact Or.inr ⟨by omega, fun k hk => rw64.2 k (by rw [c7] at hk; omega)⟩), trivial⟩)), trivial⟩
        · skip
          refine tr_aload_n dX10_change_37 hl54 ?_
          obtain ⟨a83, d84, ta83⟩ := rf12_8 hW0 ta35
          refine tr_getR dX10_change_38 fl10_143 (kR12 hS58.1 ta35) d84 ?_
          refine tr_iload dX10_change_41 hl56 ?_
          refine q_iald dX10_change_43 (kR41 hS58.1 ta83) (ti_in (nR41 hS58.1 ta83) (by omega) (by omega)) ?_
          intro v85 c86
          refine tr_iload_n dX10_change_44 hl52 ?_
          have hb87 := rw65.2.2.2.2.2.2.1 _ d84 v50.toInt.toNat (by rw [c7]; omega)
          rw [show I57 a83 v50.toInt.toNat = v85 from c86] at hb87
          have hb87r := And.intro hb87.1 hb87.2.1
          refine q_callSi hE (M' := mX10_bit) (as := [_, _]) dX10_change_45 lk10_136 inX10_bit myX10_bit ⟨by decide, by decide⟩ rfl (Nat.le_of_ble_eq_true rfl) rfl rfl (by decide) (by decide) (f_X10_bitW   (by omega) (by omega)) ?_
          rintro v93 cn' K' N' I88 R89 L90 ⟨rfl, rfl, rfl, rfl, rfl, rfl, p94, -⟩
          have btv93 := bt_01 v85.toInt x1.toInt
          refine q_iconst dX10_change_48 (by decide) ?_
          intro v95 h96
          refine q_icmp_ne 68 dX10_change_49 (by decide) (fun h97 => ?_) (fun h97 => ?_)
          · skip
            refine q_iincE dX10_change_68 hl56 (by decide) (by decide) (by intros; omega) ?_
            intro v98 h99
            refine tr_goto 25 dX10_change_71 (by decide) ?_
            exact ih67 _ v49 v98 I57 hl51 hl52 hl53 hl54 hl55 rfl hS58 (by omega) (by omega) (by omega) (by omega) (by omega) (by have e : bt _ _ = skC _ _ _ _ _ _ := hb87.2.2 x1.toInt.toNat (by omega); rw [show ((x1.toInt.toNat : Nat) : Int) = x1.toInt by omega] at e; have w := rw64; refine ⟨by rw [show v98.toInt.toNat = v50.toInt.toNat + 1 by omega, cnM]; have w1 := w.1; omega, fun k hk hf => ?_⟩; by_cases z : (k : Int) < v50.toInt; exact w.2 k z hf; obtain rfl : k = v50.toInt.toNat := (by omega); have hf : skC gX (-1) ((I0 a1 3).toInt.toNat + (I0 a9 2).toInt.toNat) (I0 a1 1).toInt x1.toInt ((v50.toInt.toNat : Nat) : Int) = 1 := hf; have w1 := w.1; intro hq; omega) rw65 rw66 (by omega)
          · skip
            refine tr_iload dX10_change_52 hl55 ?_
            refine tr_iload_n dX10_change_54 hl53 ?_
            refine q_icmp_ne 65 dX10_change_55 (by decide) (fun h100 => ?_) (fun h100 => ?_)
            · skip
              refine q_iincE dX10_change_65 hl55 (by decide) (by decide) (by have z0 := x2.toInt_lt; have y0 := x2.le_toInt; intros; omega) ?_
              intro v101 h102
              refine q_iincE dX10_change_68 hl56 (by decide) (by decide) (by intros; omega) ?_
              intro v103 h104
              refine tr_goto 25 dX10_change_71 (by decide) ?_
              exact ih67 _ v101 v103 I57 hl51 hl52 hl53 hl54 rfl rfl hS58 (by omega) (by omega) (by omega) (by omega) (by omega) (by have e : bt _ _ = skC _ _ _ _ _ _ := hb87.2.2 x1.toInt.toNat (by omega); rw [show ((x1.toInt.toNat : Nat) : Int) = x1.toInt by omega] at e; have w := rw64; refine ⟨by rw [show v103.toInt.toNat = v50.toInt.toNat + 1 by omega, cnM]; have w1 := w.1; omega, fun k hk hf => ?_⟩; by_cases z : (k : Int) < v50.toInt; exact w.2 k z hf; obtain rfl : k = v50.toInt.toNat := (by omega); have hf : skC gX (-1) ((I0 a1 3).toInt.toNat + (I0 a9 2).toInt.toNat) (I0 a1 1).toInt x1.toInt ((v50.toInt.toNat : Nat) : Int) = 1 := hf; have w1 := w.1; intro hq; omega) rw65 rw66 (by omega)
            · skip
              refine tr_aload_n dX10_change_58 hl51 ?_
              refine tr_iload dX10_change_59 hl56 ?_
              refine q_callVi hE (M' := mX10_answered) (as := [_]) dX10_change_61 lk10_109 inX10_answered seX10_answered myX10_answered (by decide) ⟨by decide, by decide⟩ rfl (kR1 hS58.1 ta0) (Nat.le_of_ble_eq_true rfl) rfl rfl (by decide) (by decide) (fk_X10_answered hS58.1  ta0) ?_
              rintro v110 cn' K' N' I105 R106 L107 ⟨rfl, rfl, rfl, rfl, rfl, g108, p111, p112, -⟩
              have hS113 := hS58.tr g108 (by decide +kernel) (by decide +kernel)
              obtain ⟨v114, c115⟩ : ∃ v, I105 a0 17 = v := ⟨_, rfl⟩
              rw [c115] at p112
              exact tr_iret hZ dX10_change_64 rfl (by decide) (by decide) ⟨v110, rfl, rfl, rfl, rfl, rfl, rfl, hS113, (SkQ.st rw66 hW0 ta0 g108 (by decide +kernel) (by decide +kernel)), (Or.inr (⟨(by first | done | with_reducible assumption | omega), (fun q0 z0 => by obtain rfl := Option.some.inj ((d2).symm.trans z0); (try rw [c4]); first | done | with_reducible assumption | omega), (fun al nw h2 h6 => by obtain rfl := Option.some.inj (d2.symm.trans h2); obtain rfl := Option.some.inj (d10.symm.trans h6); have e : bt _ _ = skC _ _ _ _ _ _ := hb87.2.2 x1.toInt.toNat (by omega); rw [show ((x1.toInt.toNat : Nat) : Int) = x1.toInt by omega] at e; have w := rw64.1; exact Or.inl ⟨v50.toInt.toNat, by rw [c7]; omega, by omega, (by show skC _ _ _ _ _ _ = _; omega), by omega⟩), trivial⟩)), trivial⟩
    exact lp67 _ _ v45 v47 I30 rfl rfl rfl rfl rfl rfl hS40 (by omega) (by omega) (by omega) (by omega) (by omega) ⟨by rw [show v47.toInt.toNat = 0 by omega]; show _ = (0 : Int); omega, fun k hk => by exfalso; omega⟩ hz44 (SkQ.of rp38) (Nat.lt_succ_self _)
  · skip
    refine tr_aload_n dX10_change_8 rfl ?_
    refine q_iconst dX10_change_9 (by decide) ?_
    intro v116 h117
    refine q_callVi hE (M' := mX10_refused) (as := [_]) dX10_change_10 lk10_79 inX10_refused seX10_refused myX10_refused (by decide) ⟨by decide, by decide⟩ rfl (kR1 hS0.1 ta0) (Nat.le_of_ble_eq_true rfl) rfl rfl (by decide) (by decide) (fk_X10_refused hS0.1  ta0) ?_
    rintro v123 cn' K' N' I118 R119 L120 ⟨rfl, rfl, rfl, rfl, rfl, g121, p124, p125, -⟩
    have hS126 := hS0.tr g121 (by decide +kernel) (by decide +kernel)
    obtain ⟨v127, c128⟩ : ∃ v, I118 a0 17 = v := ⟨_, rfl⟩
    rw [c128] at p125
    exact tr_iret hZ dX10_change_13 rfl (by decide) (by decide) ⟨v123, rfl, rfl, rfl, rfl, rfl, rfl, hS126, (SkQ.st hK hW0 ta0 g121 (by decide +kernel) (by decide +kernel)), (by first | exact Or.inl ⟨(fun q0 z0 => by obtain rfl := Option.some.inj ((d2).symm.trans z0); (try rw [c4]); first | done | with_reducible assumption | omega), (by first | done | with_reducible assumption | omega), trivial⟩ | exact Or.inr (⟨(by first | done | with_reducible assumption | omega), (fun q0 z0 => by obtain rfl := Option.some.inj ((d2).symm.trans z0); (try rw [c4]); first | done | with_reducible assumption | omega), (by exfalso; omega), trivial⟩)), trivial⟩
set_option maxHeartbeats 4000000 in
theorem fk_X0_cheesesIn {l : Launch} {T : Nat → Nat} {cn : Nat} {K N : Nat → Nat} {I0 : cz_I} {R0 : cz_R} {L0 : cz_L} {d : Int} (hW0 : Wf T cn K N I0 R0 d) (gH : Nat → Int) {a0 : Nat} (ta0 : T a0 = 2) {x1 : Int32} (hx1 : 0 ≤ x1.toInt ∧ x1.toInt ≤ 15) (hH : ∀ r, R0 a0 6 = some r → ∀ c : Nat, (c : Int) < (I0 a0 5).toInt → (I0 r c).toInt = gH c ∧ 0 ≤ gH c ∧ gH c ≤ 3) : ConE l mX0_cheesesIn [.ref a0, .int x1] cn K N I0 R0 L0 (ca_i (fun v cn' K' N' I' R' L' => cn = cn' ∧ K = K' ∧ N = N' ∧ I0 = I' ∧ R0 = R' ∧ L0 = L' ∧ (0 ≤ v.toInt ∧ v.toInt ≤ 8) ∧ (∀ r, R0 a0 6 = some r → v.toInt = cnM (fun c => bt x1.toInt (I0 r c).toInt) (I0 a0 5).toInt.toNat) ∧ True)) := by
  refine ConE.of (by decide +kernel) rfl (Nat.le_of_ble_eq_true rfl) rfl (fun X hX hZ hE => ?_)
  subst hX
  obtain ⟨v1, c2⟩ : ∃ v, I0 a0 5 = v := ⟨_, rfl⟩
  have b3 := iv2_5 hW0 ta0 c2
  obtain ⟨a4, d5, ta4⟩ := rf2_6 hW0 ta0
  refine q_iconst dX0_cheesesIn_0 (by decide) ?_
  intro v6 h7
  refine tr_istore_n dX0_cheesesIn_1 (by decide) (by decide) ?_
  refine q_iconst dX0_cheesesIn_2 (by decide) ?_
  intro v8 h9
  refine tr_istore_n dX0_cheesesIn_3 (by decide) (by decide) ?_
  have lp20 : ∀ (fu : Nat) (ls : Nat → Option Value) (v10 : Int32) (v11 : Int32), ls 0 = some (.ref a0) → ls 1 = some (.int x1) → ls 2 = some (.int v10) → ls 3 = some (.int v11) → v11.toInt ≤ v1.toInt → 0 ≤ v10.toInt → v10.toInt ≤ v11.toInt → (v10.toInt = cnM (fun c => bt x1.toInt (I0 a4 c).toInt) v11.toInt.toNat) → (-v11.toInt + 2147483647).toNat < fu → Tr X mX0_cheesesIn 4 ls [] cn K N I0 R0 L0 0 0 := by
    intro fu
    induction fu with
    | zero => intros; rename_i hz; exact absurd hz (Nat.not_lt_zero _)
    | succ fu ih20 =>
      intro ls v10 v11 hl12 hl13 hl14 hl15 g16 g17 g18 rw19 hm20
      refine tr_iload_n dX0_cheesesIn_4 hl15 ?_
      refine tr_aload_n dX0_cheesesIn_5 hl12 ?_
      refine q_getI dX0_cheesesIn_6 fl0_60 (kR2 hW0 ta0) c2 ?_
      refine q_icmp_ge 31 dX0_cheesesIn_9 (by decide) (fun h22 => ?_) (fun h22 => ?_)
      · skip
        refine tr_iload_n dX0_cheesesIn_31 hl14 ?_
        exact tr_iret hZ dX0_cheesesIn_32 rfl (by decide) (by decide) ⟨v10, rfl, rfl, rfl, rfl, rfl, rfl, rfl, (by omega), (fun r hr => by obtain rfl := Option.some.inj (d5.symm.trans hr); have w := rw19; rw [show v11.toInt.toNat = (I0 a0 5).toInt.toNat from congrArg Int.toNat (by rw [c2]; omega)] at w; omega), trivial⟩
      · skip
        refine tr_iload_n dX0_cheesesIn_12 hl14 ?_
        refine tr_iload_n dX0_cheesesIn_13 hl13 ?_
        refine tr_aload_n dX0_cheesesIn_14 hl12 ?_
        refine tr_getR dX0_cheesesIn_15 fl0_21 (kR2 hW0 ta0) d5 ?_
        refine tr_iload_n dX0_cheesesIn_18 hl15 ?_
        refine q_iald dX0_cheesesIn_19 (kR20 hW0 ta4) (ti_in (nR20 hW0 ta4) (by omega) (by omega)) ?_
        intro v23 c24
        have hc25 := hH _ d5 v11.toInt.toNat (by rw [c2]; omega)
        rw [show I0 a4 v11.toInt.toNat = v23 from c24] at hc25
        refine q_callSNi hE (M' := mX10_bit) (as := [_, _]) dX0_cheesesIn_20 lk0_78 inX10_bit myX10_bit ⟨by decide, by decide⟩ rfl (Nat.le_of_ble_eq_true rfl) rfl rfl (by decide) (by decide) (f_X10_bitW   (by omega) (by omega)) ?_
        rintro v31 cn' K' N' I26 R27 L28 ⟨rfl, rfl, rfl, rfl, rfl, rfl, p32, -⟩
        have btv31 := bt_01 x1.toInt v23.toInt
        refine q_iaddE dX0_cheesesIn_23 (by intros; omega) ?_
        intro v33 h34
        refine tr_istore_n dX0_cheesesIn_24 (by decide) (by decide) ?_
        refine q_iincE dX0_cheesesIn_25 hl15 (by decide) (by decide) (by intros; omega) ?_
        intro v35 h36
        refine tr_goto 4 dX0_cheesesIn_28 (by decide) ?_
        exact ih20 _ v33 v35 hl12 hl13 rfl rfl (by omega) (by omega) (by omega) (by rw [show v35.toInt.toNat = v11.toInt.toNat + 1 by omega, cnM]; have w := rw19; rw [show I0 a4 v11.toInt.toNat = v23 from c24]; omega) (by omega)
  exact lp20 _ _ v6 v8 rfl rfl rfl rfl (by omega) (by omega) (by omega) (by rw [show v8.toInt.toNat = 0 by omega]; show _ = (0 : Int); omega) (Nat.lt_succ_self _)
def wik_X10_peak : List Nat := [73, 81, 768, 769, 778, 2303, 2367, 2431, 2495, 2559, 2623, 2687, 2751, 2815]
def wrk_X10_peak : List Nat := []
def Cs_X10_peak (T : Nat → Nat) (I0 : cz_I) (R0 : cz_R) (a0 : Nat) (gX : Nat → Nat → Int) (gH : Nat → Int) (v : Int32) (I' : cz_I) (R' : cz_R) : Prop :=
  (((I0 a0 5).toInt = 0) ∧ (v.toInt = -1) ∧ True) ∨
  (((I0 a0 5).toInt = 1) ∧ (∀ al nw, R0 a0 2 = some al → R0 a0 6 = some nw → ∃ most, PkI (fun k => skD gX (-1) ((I0 al 3).toInt.toNat + (I0 nw 2).toInt.toNat) (I0 al 1).toInt gH (I0 al 5).toInt.toNat (k : Int)) (I0 al 0).toInt most v.toInt) ∧ True)
set_option maxHeartbeats 4000000 in
theorem fk_X10_peak {l : Launch} {T : Nat → Nat} {cn : Nat} {K N : Nat → Nat} {I0 : cz_I} {R0 : cz_R} {L0 : cz_L} {d : Int} (hW0 : Wf T cn K N I0 R0 d) (gX : Nat → Nat → Int) (gH : Nat → Int) {a0 : Nat} (ta0 : T a0 = 1) (hX : EvQ I0 R0 a0 gX) (hK : SkQ I0 R0 a0 gX) (hD : DjS R0 a0) (hH : ∀ al r, R0 a0 2 = some al → R0 al 6 = some r → ∀ c : Nat, (c : Int) < (I0 al 5).toInt → (I0 r c).toInt = gH c ∧ 0 ≤ gH c ∧ gH c ≤ 3) : ConE l mX10_peak [.ref a0] cn K N I0 R0 L0 (ca_i (fun v cn' K' N' I' R' L' => cn = cn' ∧ K = K' ∧ N = N' ∧ R0 = R' ∧ L0 = L' ∧ St T cn K N d wik_X10_peak wrk_X10_peak I0 R0 I' R0 ∧ (SkQ I' R0 a0 gX) ∧ Cs_X10_peak T I0 R0 a0 gX gH v I' R0 ∧ True)) := by
  refine ConE.of (by decide +kernel) rfl (Nat.le_of_ble_eq_true rfl) rfl (fun X hX hZ hE => ?_)
  subst hX
  have hS0 : St T cn K N d wik_X10_peak wrk_X10_peak I0 R0 I0 R0 := St.rf0 hW0
  obtain ⟨v1, c2⟩ : ∃ v, I0 a0 5 = v := ⟨_, rfl⟩
  have b3 := iv1_5 hW0 ta0 c2
  obtain ⟨a4, d5, ta4⟩ := rf1_2 hW0 ta0
  obtain ⟨v6, c7⟩ : ∃ v, I0 a4 0 = v := ⟨_, rfl⟩
  have b8 := iv2_0 hW0 ta4 c7
  obtain ⟨a9, d10, ta9⟩ := rf1_6 hW0 ta0
  obtain ⟨a11, d12, ta11⟩ := rf1_8 hW0 ta0
  obtain ⟨a13, d14, ta13⟩ := rf1_13 hW0 ta0
  obtain ⟨v15, c16⟩ : ∃ v, I0 a4 1 = v := ⟨_, rfl⟩
  have b17 := iv2_1 hW0 ta4 c16
  obtain ⟨v18, c19⟩ : ∃ v, I0 a4 3 = v := ⟨_, rfl⟩
  have b20 := iv2_3 hW0 ta4 c19
  obtain ⟨a21, d22, ta21⟩ := rf2_6 hW0 ta4
  obtain ⟨v23, c24⟩ : ∃ v, I0 a4 5 = v := ⟨_, rfl⟩
  have b25 := iv2_5 hW0 ta4 c24
  refine tr_aload_n dX10_peak_0 rfl ?_
  refine q_getZ dX10_peak_1 fl10_95 (kR1 hS0.1 ta0) c2 ?_
  refine q_if_ne 13 dX10_peak_4 (by decide) (fun h26 => ?_) (fun h26 => ?_)
  · skip
    refine tr_aload_n dX10_peak_13 rfl ?_
    refine q_callVr hE (M' := mX10_presentSky) (as := []) dX10_peak_14 lk10_119 inX10_presentSky seX10_presentSky myX10_presentSky (by decide) ⟨by decide, by decide⟩ rfl (kR1 hS0.1 ta0) (Nat.le_of_ble_eq_true rfl) rfl rfl (by decide) (by decide) (fk_X10_presentSky hS0.1 (gX) ta0 hX hK hD) ?_
    rintro a32 cn' K' N' I27 R28 L29 ⟨rfl, rfl, rfl, rfl, rfl, g30, ta32, p33, rp34, rp35, rp36, -⟩
    have hS37 := hS0.tr g30 (by decide +kernel) (by decide +kernel)
    obtain ⟨v38, c39⟩ : ∃ v, I27 a0 9 = v := ⟨_, rfl⟩
    have b40 := iv1_9 hS37.1 ta0 c39
    rw [c39] at p33
    have hz41 := rp36 _ _ _ rp34 d5 d10
    refine tr_astore_n dX10_peak_17 (by decide) (by decide) ?_
    refine q_iconst dX10_peak_18 (by decide) ?_
    intro v42 h43
    refine tr_istore_n dX10_peak_19 (by decide) (by decide) ?_
    refine q_bipush dX10_peak_20 (by decide +kernel) ?_
    intro v44 h45
    refine tr_istore_n dX10_peak_22 (by decide) (by decide) ?_
    refine q_iconst dX10_peak_23 (by decide) ?_
    intro v46 h47
    refine tr_istore dX10_peak_24 (by decide) (by decide) ?_
    have lp63 : ∀ (fu : Nat) (ls : Nat → Option Value) (v48 : Int32) (v49 : Int32) (v50 : Int32) (I56 : cz_I), ls 0 = some (.ref a0) → ls 1 = some (.ref a32) → ls 2 = some (.int v48) → ls 3 = some (.int v49) → ls 4 = some (.int v50) → St T cn K N d wik_X10_peak wrk_X10_peak I0 R0 I56 R0 → v50.toInt ≤ v6.toInt → 0 ≤ v50.toInt → (PkI (fun k => skD gX (-1) ((I0 a4 3).toInt.toNat + (I0 a9 2).toInt.toNat) (I0 a4 1).toInt gH (I0 a4 5).toInt.toNat (k : Int)) v50.toInt v48.toInt v49.toInt) → (SkF I56 R0 a32 (I0 a4 0).toInt (I0 a4 1).toInt (-1) gX ((I0 a4 3).toInt.toNat + (I0 a9 2).toInt.toNat) (I0 a4 0).toInt) → (SkQ I56 R0 a0 gX) → (-v50.toInt + 2147483647).toNat < fu → Tr X mX10_peak 26 ls [] cn K N I56 R0 L0 0 0 := by
      intro fu
      induction fu with
      | zero => intros; rename_i hz; exact absurd hz (Nat.not_lt_zero _)
      | succ fu ih63 =>
        intro ls v48 v49 v50 I56 hl51 hl52 hl53 hl54 hl55 hS57 g58 g59 rw60 rw61 rw62 hm63
        refine tr_iload dX10_peak_26 hl55 ?_
        refine tr_aload_n dX10_peak_28 hl51 ?_
        refine tr_getR dX10_peak_29 fl10_16 (kR1 hS57.1 ta0) d5 ?_
        refine q_getI dX10_peak_32 fl10_146 (kR2 hS57.1 ta4) ((hS57.cell ta4 (by decide +kernel)).trans c7) ?_
        refine q_icmp_ge 72 dX10_peak_35 (by decide) (fun h65 => ?_) (fun h65 => ?_)
        · skip
          refine tr_aload_n dX10_peak_72 hl51 ?_
          refine tr_iload_n dX10_peak_73 hl54 ?_
          refine q_callVi hE (M' := mX10_answered) (as := [_]) dX10_peak_74 lk10_109 inX10_answered seX10_answered myX10_answered (by decide) ⟨by decide, by decide⟩ rfl (kR1 hS57.1 ta0) (Nat.le_of_ble_eq_true rfl) rfl rfl (by decide) (by decide) (fk_X10_answered hS57.1  ta0) ?_
          rintro v71 cn' K' N' I66 R67 L68 ⟨rfl, rfl, rfl, rfl, rfl, g69, p72, p73, -⟩
          have hS74 := hS57.tr g69 (by decide +kernel) (by decide +kernel)
          obtain ⟨v75, c76⟩ : ∃ v, I66 a0 17 = v := ⟨_, rfl⟩
          rw [c76] at p73
          exact tr_iret hZ dX10_peak_77 rfl (by decide) (by decide) ⟨v71, rfl, rfl, rfl, rfl, rfl, rfl, hS74, (SkQ.st rw62 hW0 ta0 g69 (by decide +kernel) (by decide +kernel)), (Or.inr (⟨(by (try rw [c2]); first | done | with_reducible assumption | omega), (fun al nw h2 h6 => by obtain rfl := Option.some.inj (d5.symm.trans h2); obtain rfl := Option.some.inj (d10.symm.trans h6); exact ⟨v48.toInt, by rw [show v71.toInt = v49.toInt by omega, show (I0 a4 0).toInt = v50.toInt by rw [c7]; omega]; exact rw60⟩), trivial⟩)), trivial⟩
        · skip
          refine tr_aload_n dX10_peak_38 hl51 ?_
          refine tr_getR dX10_peak_39 fl10_16 (kR1 hS57.1 ta0) d5 ?_
          refine tr_aload_n dX10_peak_42 hl52 ?_
          obtain ⟨a77, d78, ta77⟩ := rf12_8 hW0 ta32
          refine tr_getR dX10_peak_43 fl10_143 (kR12 hS57.1 ta32) d78 ?_
          refine tr_iload dX10_peak_46 hl55 ?_
          refine q_iald dX10_peak_48 (kR41 hS57.1 ta77) (ti_in (nR41 hS57.1 ta77) (by omega) (by omega)) ?_
          intro v79 c80
          have hb81 := rw61.2.2.2.2.2.2.1 _ d78 v50.toInt.toNat (by rw [c7]; omega)
          rw [show I56 a77 v50.toInt.toNat = v79 from c80] at hb81
          have hb81r := And.intro hb81.1 hb81.2.1
          refine q_callVi hE (M' := mX0_cheesesIn) (as := [_]) dX10_peak_49 lk10_149 inX0_cheesesIn seX0_cheesesIn myX0_cheesesIn (by decide) ⟨by decide, by decide⟩ rfl (kR2 hS57.1 ta4) (Nat.le_of_ble_eq_true rfl) rfl rfl (by decide) (by decide) (fk_X0_cheesesIn hS57.1 (gH) ta4 (by omega) (fun r hr c hc => by rw [hS57.cell ta4 (by decide +kernel)] at hc; obtain rfl := Option.some.inj (d22.symm.trans hr); rw [hS57.cell ta21 (wm_no (by decide +kernel))]; exact hH _ _ d5 d22 c hc)) ?_
          rintro v87 cn' K' N' I82 R83 L84 ⟨rfl, rfl, rfl, rfl, rfl, rfl, h88, rp89, -⟩
          have hd90 := rp89 _ d22
          rw [show cnM (fun c => bt v79.toInt (I56 a21 c).toInt) (I56 a4 5).toInt.toNat = skD gX (-1) ((I0 a4 3).toInt.toNat + (I0 a9 2).toInt.toNat) (I0 a4 1).toInt gH (I0 a4 5).toInt.toNat ((v50.toInt.toNat : Nat) : Int) by rw [hS57.cell ta4 (by decide +kernel)]; exact skD.of hb81 (fun c hc => by rw [hS57.cell ta21 (wm_no (by decide +kernel))]; exact hH _ _ d5 d22 c (by omega))] at hd90
          refine tr_istore dX10_peak_52 (by decide) (by decide) ?_
          refine tr_iload dX10_peak_54 rfl ?_
          refine tr_iload_n dX10_peak_56 hl53 ?_
          refine q_icmp_le 66 dX10_peak_57 (by decide) (fun h91 => ?_) (fun h91 => ?_)
          · skip
            refine q_iincE dX10_peak_66 hl55 (by decide) (by decide) (by intros; omega) ?_
            intro v92 h93
            refine tr_goto 26 dX10_peak_69 (by decide) ?_
            exact ih63 _ v48 v49 v92 I56 hl51 hl52 hl53 hl54 rfl hS57 (by omega) (by omega) (PkI.no rw60 v50.toInt.toNat (by omega) (by omega) (by show skD _ _ _ _ _ _ _ ≤ _; omega)) rw61 rw62 (by omega)
          · skip
            refine tr_iload dX10_peak_60 rfl ?_
            refine tr_istore_n dX10_peak_62 (by decide) (by decide) ?_
            refine tr_iload dX10_peak_63 hl55 ?_
            refine tr_istore_n dX10_peak_65 (by decide) (by decide) ?_
            refine q_iincE dX10_peak_66 hl55 (by decide) (by decide) (by intros; omega) ?_
            intro v94 h95
            refine tr_goto 26 dX10_peak_69 (by decide) ?_
            exact ih63 _ v87 v50 v94 I56 hl51 hl52 rfl rfl rfl hS57 (by omega) (by omega) (PkI.up rw60 v50.toInt.toNat (by omega) (by omega) (by show skD _ _ _ _ _ _ _ = _; omega) (by omega) (by omega)) rw61 rw62 (by omega)
    exact lp63 _ _ v42 v44 v46 I27 rfl rfl rfl rfl rfl hS37 (by omega) (by omega) (PkI.z (by omega) (by omega) (by omega)) hz41 (SkQ.of rp35) (Nat.lt_succ_self _)
  · skip
    refine tr_aload_n dX10_peak_7 rfl ?_
    refine q_iconst dX10_peak_8 (by decide) ?_
    intro v96 h97
    refine q_callVi hE (M' := mX10_refused) (as := [_]) dX10_peak_9 lk10_79 inX10_refused seX10_refused myX10_refused (by decide) ⟨by decide, by decide⟩ rfl (kR1 hS0.1 ta0) (Nat.le_of_ble_eq_true rfl) rfl rfl (by decide) (by decide) (fk_X10_refused hS0.1  ta0) ?_
    rintro v103 cn' K' N' I98 R99 L100 ⟨rfl, rfl, rfl, rfl, rfl, g101, p104, p105, -⟩
    have hS106 := hS0.tr g101 (by decide +kernel) (by decide +kernel)
    obtain ⟨v107, c108⟩ : ∃ v, I98 a0 17 = v := ⟨_, rfl⟩
    rw [c108] at p105
    exact tr_iret hZ dX10_peak_12 rfl (by decide) (by decide) ⟨v103, rfl, rfl, rfl, rfl, rfl, rfl, hS106, (SkQ.st hK hW0 ta0 g101 (by decide +kernel) (by decide +kernel)), (Or.inl ⟨(by (try rw [c2]); first | done | with_reducible assumption | omega), (by first | done | with_reducible assumption | omega), trivial⟩), trivial⟩
