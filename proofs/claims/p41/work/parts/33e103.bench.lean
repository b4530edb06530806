set_option maxHeartbeats 4000000 in
theorem fk_X12_change {l : Launch} {T : Nat → Nat} {cn : Nat} {K N : Nat → Nat} {I0 : cz_I} {R0 : cz_R} {L0 : cz_L} {d : Int} (hW0 : Wf T cn K N I0 R0 d) (gX : Nat → Nat → Int) {a0 : Nat} (ta0 : T a0 = 15) {x1 : Int32} {x2 : Int32} (hX : EvY I0 R0 a0 gX) : ConE l mX12_change [.ref a0, .int x1, .int x2] cn K N I0 R0 L0 (ca_i (fun v cn' K' N' I' R' L' => cn = cn' ∧ K = K' ∧ N = N' ∧ R0 = R' ∧ L0 = L' ∧ St T cn K N d wik_X12_change wrk_X12_change I0 R0 I' R0 ∧ Cs_X12_change T I0 R0 a0 gX x1 x2 v I' R0 ∧ True)) := by
  refine ConE.of (by decide +kernel) rfl (Nat.le_of_ble_eq_true rfl) rfl (fun X hX hZ hE => ?_)
  subst hX
  have hS0 : St T cn K N d wik_X12_change wrk_X12_change I0 R0 I0 R0 := St.rf0 hW0
  obtain ⟨a1, d2, ta1⟩ := rf15_16 hW0 ta0
  rcases rf15_3 hW0 ta0 with d4 | ⟨a3, d4, ta3⟩
  · skip
    refine tr_aload_n dX12_change_0 rfl ?_
    refine q_iconst dX12_change_1 (by decide) ?_
    intro v5 h6
    refine q_putI dX12_change_2 fl12_70 (kR15 hS0.1 ta0) (Or.inl rfl) hS0 ta0 (iokF rfl) rfl (by decide +kernel) ?_
    intro I7 hS8 e9 f10
    refine tr_aload_n dX12_change_5 rfl ?_
    refine tr_iload_n dX12_change_6 rfl ?_
    refine q_callVi hE (M' := mX12_isHut) (as := [_]) dX12_change_7 lk12_446 inX12_isHut seX12_isHut myX12_isHut (by decide) ⟨by decide, by decide⟩ rfl (kR15 hS8.1 ta0) (Nat.le_of_ble_eq_true rfl) rfl rfl (by decide) (by decide) (fk_X12_isHut hS8.1  ta0) ?_
    rintro v16 cn' K' N' I11 R12 L13 ⟨rfl, rfl, rfl, rfl, rfl, rfl, h17, dj18, -⟩
    rcases dj18 with ⟨p19, rp20, -⟩ | ⟨p21, p22, p23, rp24, -⟩ | ⟨p25, p26, rp27, -⟩
    · skip
      refine q_if_ne 19 dX12_change_10 (by decide) (fun h28 => ?_) (fun h28 => ?_)
      · skip
        exfalso; omega
      · skip
        refine tr_aload_n dX12_change_13 rfl ?_
        refine q_iconst dX12_change_14 (by decide) ?_
        intro v29 h30
        refine q_callVi hE (M' := mX12_refused) (as := [_]) dX12_change_15 lk12_76 inX12_refused seX12_refused myX12_refused (by decide) ⟨by decide, by decide⟩ rfl (kR15 hS8.1 ta0) (Nat.le_of_ble_eq_true rfl) rfl rfl (by decide) (by decide) (fk_X12_refused hS8.1  ta0) ?_
        rintro v36 cn' K' N' I31 R32 L33 ⟨rfl, rfl, rfl, rfl, rfl, g34, p37, p38, p39, -⟩
        have hS40 := hS8.tr g34 (by decide +kernel) (by decide +kernel)
        have c41 : I31 a0 0 = v5 := (g34.cell ta0 (by decide +kernel)).trans e9
        obtain ⟨v42, c43⟩ : ∃ v, I31 a0 1 = v := ⟨_, rfl⟩
        rw [c43] at p38
        obtain ⟨v44, c45⟩ : ∃ v, I31 a0 2 = v := ⟨_, rfl⟩
        rw [c45] at p39
        exact tr_iret hZ dX12_change_18 rfl (by decide) (by decide) ⟨v36, rfl, rfl, rfl, rfl, rfl, rfl, hS40, (Or.inl ⟨(by first | done | with_reducible assumption | omega), d4, trivial⟩), trivial⟩
    · skip
      exfalso; obtain ⟨z, hz⟩ := rp24; rw [d4] at hz; cases hz
    · skip
      exfalso; obtain ⟨z, hz⟩ := rp27; rw [d4] at hz; cases hz
  · skip
    refine tr_aload_n dX12_change_0 rfl ?_
    refine q_iconst dX12_change_1 (by decide) ?_
    intro v46 h47
    refine q_putI dX12_change_2 fl12_70 (kR15 hS0.1 ta0) (Or.inl rfl) hS0 ta0 (iokF rfl) rfl (by decide +kernel) ?_
    intro I48 hS49 e50 f51
    refine tr_aload_n dX12_change_5 rfl ?_
    refine tr_iload_n dX12_change_6 rfl ?_
    obtain ⟨v52, c53⟩ : ∃ v, I0 a3 1 = v := ⟨_, rfl⟩
    have b54 := iv14_1 hW0 ta3 c53
    refine q_callVi hE (M' := mX12_isHut) (as := [_]) dX12_change_7 lk12_446 inX12_isHut seX12_isHut myX12_isHut (by decide) ⟨by decide, by decide⟩ rfl (kR15 hS49.1 ta0) (Nat.le_of_ble_eq_true rfl) rfl rfl (by decide) (by decide) (fk_X12_isHut hS49.1  ta0) ?_
    rintro v60 cn' K' N' I55 R56 L57 ⟨rfl, rfl, rfl, rfl, rfl, rfl, h61, dj62, -⟩
    rcases dj62 with ⟨p63, rp64, -⟩ | ⟨p65, p66, p67, rp68, -⟩ | ⟨p69, p70, rp71, -⟩
    · skip
      exfalso; have hz := rp64; rw [d4] at hz; cases hz
    · skip
      have p72 := p67 _ d4
      clear p67
      rw [((hS49.cell ta3 (by decide +kernel)).trans c53)] at p72
      refine q_if_ne 19 dX12_change_10 (by decide) (fun h73 => ?_) (fun h73 => ?_)
      · skip
        refine tr_aload_n dX12_change_19 rfl ?_
        refine q_iconst dX12_change_20 (by decide) ?_
        intro v74 h75
        obtain ⟨v76, c77⟩ : ∃ v, I0 a3 0 = v := ⟨_, rfl⟩
        have b78 := hW0.2.2.2.2.2.1 a0 ta0 _ d4
        rw [c77] at b78
        have b79 := iv14_0 hW0 ta3 c77
        obtain ⟨v80, c81⟩ : ∃ v, I0 a3 2 = v := ⟨_, rfl⟩
        have b82 := iv14_2 hW0 ta3 c81
        obtain ⟨v83, c84⟩ : ∃ v, I0 a1 1 = v := ⟨_, rfl⟩
        have b85 := iv77_1 hW0 ta1 (by decide) c84
        refine q_callVv hE (M' := mX12_laysLight) (as := [_]) dX12_change_21 lk12_434 inX12_laysLight seX12_laysLight myX12_laysLight (by decide) ⟨by decide, by decide⟩ rfl (kR15 hS49.1 ta0) (Nat.le_of_ble_eq_true rfl) rfl rfl (by decide) (by decide) (fk_X12_laysLight hS49.1 (gX) ta0 (EvY.st hX hW0 ta0 hS49 (by decide +kernel)) ⟨_, d4⟩) ?_
        rintro cn' K' N' I86 R87 L88 ⟨rfl, rfl, rfl, rfl, rfl, g89, rp92, -⟩
        have hS93 := hS49.tr g89 (by decide +kernel) (by decide +kernel)
        have c94 : I86 a0 0 = v46 := (g89.cell ta0 (by decide +kernel)).trans e50
        have hz95 := rp92 _ _ d4 d2
        rw [((hS49.cell ta3 (by decide +kernel)).trans c77), ((hS49.cell ta3 (by decide +kernel)).trans c53), ((hS49.cell ta3 (by decide +kernel)).trans c81), ((hS49.cell ta1 (by decide +kernel)).trans c84), show v74.toInt = -1 by omega] at hz95
        refine q_iconst dX12_change_24 (by decide) ?_
        intro v96 h97
        refine tr_istore_n dX12_change_25 (by decide) (by decide) ?_
        refine q_iconst dX12_change_26 (by decide) ?_
        intro v98 h99
        refine tr_istore dX12_change_27 (by decide) (by decide) ?_
        have lp115 : ∀ (fu : Nat) (ls : Nat → Option Value) (v100 : Int32) (v101 : Int32) (I107 : cz_I), ls 0 = some (.ref a0) → ls 1 = some (.int x1) → ls 2 = some (.int x2) → ls 3 = some (.int v100) → ls 4 = some (.int v101) → St T cn K N d wik_X12_change wrk_X12_change I0 R0 I107 R0 → 0 ≤ v101.toInt → 0 ≤ v100.toInt → v100.toInt ≤ v101.toInt → (v100.toInt = cnM (fun k => skC gX (-1) (v80.toInt + v83.toInt).toNat v52.toInt x1.toInt (k : Int)) v101.toInt.toNat ∧ ∀ k : Nat, (k : Int) < v101.toInt → (fun k => skC gX (-1) (v80.toInt + v83.toInt).toNat v52.toInt x1.toInt (k : Int)) k = 1 → ¬ cnM (fun k => skC gX (-1) (v80.toInt + v83.toInt).toNat v52.toInt x1.toInt (k : Int)) k = x2.toInt) → (SkM I107 R0 a0 v76.toInt v52.toInt (-1) gX (v80.toInt + v83.toInt).toNat v76.toInt v76.toInt 0) → (v101.toInt ≤ v76.toInt) → (-v101.toInt + 2147483647).toNat < fu → Tr X mX12_change 29 ls [] cn K N I107 R0 L0 0 0 := by
          intro fu
          induction fu with
          | zero => intros; rename_i hz; exact absurd hz (Nat.not_lt_zero _)
          | succ fu ih115 =>
            intro ls v100 v101 I107 hl102 hl103 hl104 hl105 hl106 hS108 g109 g110 g111 rw112 rw113 rw114 hm115
            refine tr_iload dX12_change_29 hl106 ?_
            refine tr_aload_n dX12_change_31 hl102 ?_
            refine tr_getR dX12_change_32 fl12_385 (kR15 hS108.1 ta0) d4 ?_
            refine q_getI dX12_change_35 fl12_192 (kR14 hS108.1 ta3) ((hS108.cell ta3 (by decide +kernel)).trans c77) ?_
            refine q_icmp_ge 75 dX12_change_38 (by decide) (fun h117 => ?_) (fun h117 => ?_)
            · skip
              refine tr_aload_n dX12_change_75 hl102 ?_
              refine q_iconst dX12_change_76 (by decide) ?_
              intro v118 h119
              refine q_callVi hE (M' := mX12_refused) (as := [_]) dX12_change_77 lk12_76 inX12_refused seX12_refused myX12_refused (by decide) ⟨by decide, by decide⟩ rfl (kR15 hS108.1 ta0) (Nat.le_of_ble_eq_true rfl) rfl rfl (by decide) (by decide) (fk_X12_refused hS108.1  ta0) ?_
              rintro v125 cn' K' N' I120 R121 L122 ⟨rfl, rfl, rfl, rfl, rfl, g123, p126, p127, p128, -⟩
              have hS129 := hS108.tr g123 (by decide +kernel) (by decide +kernel)
              obtain ⟨v130, c131⟩ : ∃ v, I120 a0 1 = v := ⟨_, rfl⟩
              rw [c131] at p127
              obtain ⟨v132, c133⟩ : ∃ v, I120 a0 2 = v := ⟨_, rfl⟩
              rw [c133] at p128
              exact tr_iret hZ dX12_change_80 rfl (by decide) (by decide) ⟨v125, rfl, rfl, rfl, rfl, rfl, rfl, hS129, (by first | exact Or.inr (Or.inl ⟨(fun q0 z0 => by obtain rfl := Option.some.inj ((d4).symm.trans z0); (try rw [c53]); first | done | with_reducible assumption | omega), (by first | done | with_reducible assumption | omega), ⟨_, d4⟩, trivial⟩) | exact Or.inr (Or.inr (⟨(by first | done | with_reducible assumption | omega), (fun q0 z0 => by obtain rfl := Option.some.inj ((d4).symm.trans z0); (try rw [c53]); first | done | with_reducible assumption | omega), ⟨_, d4⟩, (fun b w hb hw => by obtain rfl := Option.some.inj (d4.symm.trans hb); obtain rfl := Option.some.inj (d2.symm.trans hw); rw [c77, c53, c81, c84]; exact Or.inr ⟨by omega, fun k hk => rw112.2 k (by omega)⟩), trivial⟩))), trivial⟩
            · skip
              refine tr_aload_n dX12_change_41 hl102 ?_
              refine tr_iload_n dX12_change_42 hl103 ?_
              refine tr_iload dX12_change_43 hl106 ?_
              refine q_callVi hE (M' := mX12_changesIn) (as := [_, _]) dX12_change_45 lk12_413 inX12_changesIn seX12_changesIn myX12_changesIn (by decide) ⟨by decide, by decide⟩ rfl (kR15 hS108.1 ta0) (Nat.le_of_ble_eq_true rfl) rfl rfl (by decide) (by decide) (fk_X12_changesIn hS108.1  ta0 (by omega) (by omega)) ?_
              rintro v139 cn' K' N' I134 R135 L136 ⟨rfl, rfl, rfl, rfl, rfl, rfl, h140, rp141, -⟩
              obtain ⟨a142, d143, ta142⟩ := rf15_22 hW0 ta0
              have hc144 := SkM.ch rw113 d143 (by omega) (by omega) (by omega) (by omega) (rp141 _ d143)
              refine q_if_ne 54 dX12_change_48 (by decide) (fun h145 => ?_) (fun h145 => ?_)
              · skip
                refine tr_iload_n dX12_change_54 hl105 ?_
                refine tr_iload_n dX12_change_55 hl104 ?_
                refine q_icmp_ne 66 dX12_change_56 (by decide) (fun h146 => ?_) (fun h146 => ?_)
                · skip
                  refine q_iincE dX12_change_66 hl105 (by decide) (by decide) (by have z0 := x2.toInt_lt; have y0 := x2.le_toInt; intros; omega) ?_
                  intro v147 h148
                  refine q_iincE dX12_change_69 hl106 (by decide) (by decide) (by intros; omega) ?_
                  intro v149 h150
                  refine tr_goto 29 dX12_change_72 (by decide) ?_
                  exact ih115 _ v147 v149 I107 hl102 hl103 hl104 rfl rfl hS108 (by omega) (by omega) (by omega) (by have e := hc144; have b := skC_01 gX (-1) (v80.toInt + v83.toInt).toNat v52.toInt x1.toInt v101.toInt; have w := rw112; refine ⟨by rw [show v149.toInt.toNat = v101.toInt.toNat + 1 by omega, cnM]; rw [show ((v101.toInt.toNat : Nat) : Int) = v101.toInt by omega]; have w1 := w.1; omega, fun k hk hf => ?_⟩; by_cases z : (k : Int) < v101.toInt; exact w.2 k z hf; obtain rfl : k = v101.toInt.toNat := (by omega); have hf : skC gX (-1) (v80.toInt + v83.toInt).toNat v52.toInt x1.toInt ((v101.toInt.toNat : Nat) : Int) = 1 := hf; rw [show ((v101.toInt.toNat : Nat) : Int) = v101.toInt by omega] at hf; have w1 := w.1; intro hq; omega) rw113 (by omega) (by omega)
                · skip
                  refine tr_aload_n dX12_change_59 hl102 ?_
                  refine tr_iload dX12_change_60 hl106 ?_
                  refine q_callVi hE (M' := mX12_good) (as := [_]) dX12_change_62 lk12_81 inX12_good seX12_good myX12_good (by decide) ⟨by decide, by decide⟩ rfl (kR15 hS108.1 ta0) (Nat.le_of_ble_eq_true rfl) rfl rfl (by decide) (by decide) (fk_X12_good hS108.1  ta0) ?_
                  rintro v156 cn' K' N' I151 R152 L153 ⟨rfl, rfl, rfl, rfl, rfl, g154, p157, p158, p159, -⟩
                  have hS160 := hS108.tr g154 (by decide +kernel) (by decide +kernel)
                  obtain ⟨v161, c162⟩ : ∃ v, I151 a0 1 = v := ⟨_, rfl⟩
                  rw [c162] at p158
                  obtain ⟨v163, c164⟩ : ∃ v, I151 a0 2 = v := ⟨_, rfl⟩
                  rw [c164] at p159
                  exact tr_iret hZ dX12_change_65 rfl (by decide) (by decide) ⟨v156, rfl, rfl, rfl, rfl, rfl, rfl, hS160, (Or.inr (Or.inr (⟨(by first | done | with_reducible assumption | omega), (fun q0 z0 => by obtain rfl := Option.some.inj ((d4).symm.trans z0); (try rw [c53]); first | done | with_reducible assumption | omega), ⟨_, d4⟩, (fun b w hb hw => by obtain rfl := Option.some.inj (d4.symm.trans hb); obtain rfl := Option.some.inj (d2.symm.trans hw); rw [c77, c53, c81, c84]; have w := rw112.1; exact Or.inl ⟨v101.toInt.toNat, by omega, by omega, (by show skC _ _ _ _ _ _ = _; rw [show ((v101.toInt.toNat : Nat) : Int) = v101.toInt by omega]; omega), by omega⟩), trivial⟩))), trivial⟩
              · skip
                refine tr_goto 69 dX12_change_51 (by decide) ?_
                refine q_iincE dX12_change_69 hl106 (by decide) (by decide) (by intros; omega) ?_
                intro v165 h166
                refine tr_goto 29 dX12_change_72 (by decide) ?_
                exact ih115 _ v100 v165 I107 hl102 hl103 hl104 hl105 rfl hS108 (by omega) (by omega) (by omega) (by have e := hc144; have b := skC_01 gX (-1) (v80.toInt + v83.toInt).toNat v52.toInt x1.toInt v101.toInt; have w := rw112; refine ⟨by rw [show v165.toInt.toNat = v101.toInt.toNat + 1 by omega, cnM]; rw [show ((v101.toInt.toNat : Nat) : Int) = v101.toInt by omega]; have w1 := w.1; omega, fun k hk hf => ?_⟩; by_cases z : (k : Int) < v101.toInt; exact w.2 k z hf; obtain rfl : k = v101.toInt.toNat := (by omega); have hf : skC gX (-1) (v80.toInt + v83.toInt).toNat v52.toInt x1.toInt ((v101.toInt.toNat : Nat) : Int) = 1 := hf; rw [show ((v101.toInt.toNat : Nat) : Int) = v101.toInt by omega] at hf; have w1 := w.1; intro hq; omega) rw113 (by omega) (by omega)
        exact lp115 _ _ v96 v98 I86 rfl rfl rfl rfl rfl hS93 (by omega) (by omega) (by omega) ⟨by rw [show v98.toInt.toNat = 0 by omega]; show _ = (0 : Int); omega, fun k hk => by exfalso; omega⟩ hz95 (by omega) (Nat.lt_succ_self _)
      · skip
        exfalso; omega
    · skip
      have p167 := p70 _ d4
      clear p70
      rw [((hS49.cell ta3 (by decide +kernel)).trans c53)] at p167
      refine q_if_ne 19 dX12_change_10 (by decide) (fun h168 => ?_) (fun h168 => ?_)
      · skip
        exfalso; omega
      · skip
        refine tr_aload_n dX12_change_13 rfl ?_
        refine q_iconst dX12_change_14 (by decide) ?_
        intro v169 h170
        refine q_callVi hE (M' := mX12_refused) (as := [_]) dX12_change_15 lk12_76 inX12_refused seX12_refused myX12_refused (by decide) ⟨by decide, by decide⟩ rfl (kR15 hS49.1 ta0) (Nat.le_of_ble_eq_true rfl) rfl rfl (by decide) (by decide) (fk_X12_refused hS49.1  ta0) ?_
        rintro v176 cn' K' N' I171 R172 L173 ⟨rfl, rfl, rfl, rfl, rfl, g174, p177, p178, p179, -⟩
        have hS180 := hS49.tr g174 (by decide +kernel) (by decide +kernel)
        have c181 : I171 a0 0 = v46 := (g174.cell ta0 (by decide +kernel)).trans e50
        obtain ⟨v182, c183⟩ : ∃ v, I171 a0 1 = v := ⟨_, rfl⟩
        rw [c183] at p178
        obtain ⟨v184, c185⟩ : ∃ v, I171 a0 2 = v := ⟨_, rfl⟩
        rw [c185] at p179
        exact tr_iret hZ dX12_change_18 rfl (by decide) (by decide) ⟨v176, rfl, rfl, rfl, rfl, rfl, rfl, hS180, (by first | exact Or.inr (Or.inl ⟨(fun q0 z0 => by obtain rfl := Option.some.inj ((d4).symm.trans z0); (try rw [c53]); first | done | with_reducible assumption | omega), (by first | done | with_reducible assumption | omega), ⟨_, d4⟩, trivial⟩) | exact Or.inr (Or.inr (⟨(by first | done | with_reducible assumption | omega), (fun q0 z0 => by obtain rfl := Option.some.inj ((d4).symm.trans z0); (try rw [c53]); first | done | with_reducible assumption | omega), ⟨_, d4⟩, (by exfalso; omega), trivial⟩))), trivial⟩
set_option maxHeartbeats 4000000 in
theorem fk_X12_dueIn {l : Launch} {T : Nat → Nat} {cn : Nat} {K N : Nat → Nat} {I0 : cz_I} {R0 : cz_R} {L0 : cz_L} {d : Int} (hW0 : Wf T cn K N I0 R0 d) (gX : Nat → Nat → Int) (gm : Int) (gc : Int) (gl : Int) (gn : Nat) (gH : Nat → Int) {a0 : Nat} (ta0 : T a0 = 15) {x1 : Int32} (hx1 : 0 ≤ x1.toInt ∧ x1.toInt ≤ 239) (hM : SkM I0 R0 a0 gm gc gl gX gn gm gm 0) (hH : ∀ b r, R0 a0 3 = some b → R0 b 15 = some r → ∀ c : Nat, (c : Int) < (I0 b 3).toInt → (I0 r c).toInt = gH c ∧ 0 ≤ gH c ∧ gH c < gc ∧ gH c ≤ 3) (pre0 : 0 ≤ x1.toInt) (pre1 : x1.toInt < (gm)) (nn3 : ∃ b, R0 a0 3 = some b) : ConE l mX12_dueIn [.ref a0, .int x1] cn K N I0 R0 L0 (ca_i (fun v cn' K' N' I' R' L' => cn = cn' ∧ K = K' ∧ N = N' ∧ I0 = I' ∧ R0 = R' ∧ L0 = L' ∧ (0 ≤ v.toInt ∧ v.toInt ≤ 8) ∧ (∀ b, R0 a0 3 = some b → v.toInt = skD gX gl gn gc gH (I0 b 3).toInt.toNat x1.toInt) ∧ True)) := by
  refine ConE.of (by decide +kernel) rfl (Nat.le_of_ble_eq_true rfl) rfl (fun X hX hZ hE => ?_)
  subst hX
  obtain ⟨a1, d2⟩ := nn3
  have ta1 : T a1 = 14 := hW0.rsN ta0 rfl d2
  have p3 := pre0
  have p4 := pre1
  obtain ⟨v5, c6⟩ : ∃ v, I0 a1 3 = v := ⟨_, rfl⟩
  have b7 := iv14_3 hW0 ta1 c6
  obtain ⟨a8, d9, ta8⟩ := rf15_22 hW0 ta0
  obtain ⟨a10, d11, ta10⟩ := rf14_15 hW0 ta1
  refine q_iconst dX12_dueIn_0 (by decide) ?_
  intro v12 h13
  refine tr_istore_n dX12_dueIn_1 (by decide) (by decide) ?_
  refine q_iconst dX12_dueIn_2 (by decide) ?_
  intro v14 h15
  refine tr_istore_n dX12_dueIn_3 (by decide) (by decide) ?_
  have lp26 : ∀ (fu : Nat) (ls : Nat → Option Value) (v16 : Int32) (v17 : Int32), ls 0 = some (.ref a0) → ls 1 = some (.int x1) → ls 2 = some (.int v16) → ls 3 = some (.int v17) → v17.toInt ≤ v5.toInt → 0 ≤ v16.toInt → v16.toInt ≤ v17.toInt → (v16.toInt = cnM (fun c => skC gX gl gn gc (gH c) x1.toInt) v17.toInt.toNat) → (-v17.toInt + 2147483647).toNat < fu → Tr X mX12_dueIn 4 ls [] cn K N I0 R0 L0 0 0 := by
    intro fu
    induction fu with
    | zero => intros; rename_i hz; exact absurd hz (Nat.not_lt_zero _)
    | succ fu ih26 =>
      intro ls v16 v17 hl18 hl19 hl20 hl21 g22 g23 g24 rw25 hm26
      refine tr_iload_n dX12_dueIn_4 hl21 ?_
      refine tr_aload_n dX12_dueIn_5 hl18 ?_
      refine tr_getR dX12_dueIn_6 fl12_385 (kR15 hW0 ta0) d2 ?_
      refine q_getI dX12_dueIn_9 fl12_224 (kR14 hW0 ta1) c6 ?_
      refine q_icmp_ge 46 dX12_dueIn_12 (by decide) (fun h28 => ?_) (fun h28 => ?_)
      · skip
        refine tr_iload_n dX12_dueIn_46 hl20 ?_
        exact tr_iret hZ dX12_dueIn_47 rfl (by decide) (by decide) ⟨v16, rfl, rfl, rfl, rfl, rfl, rfl, rfl, (by omega), (fun b hb => by obtain rfl := Option.some.inj (d2.symm.trans hb); rw [c6]; have w := rw25; rw [show v17.toInt.toNat = v5.toInt.toNat from congrArg Int.toNat (by omega)] at w; show _ = cnM _ _; omega), trivial⟩
      · skip
        refine tr_iload_n dX12_dueIn_15 hl20 ?_
        refine tr_aload_n dX12_dueIn_16 hl18 ?_
        refine tr_aload_n dX12_dueIn_17 hl18 ?_
        refine tr_getR dX12_dueIn_18 fl12_385 (kR15 hW0 ta0) d2 ?_
        refine tr_getR dX12_dueIn_21 fl12_296 (kR14 hW0 ta1) d11 ?_
        refine tr_iload_n dX12_dueIn_24 hl21 ?_
        refine q_iald dX12_dueIn_25 (kR58 hW0 ta10) (ti_in (nR58 hW0 ta10) (by omega) (by omega)) ?_
        intro v29 c30
        have b31 := iv58 hW0 ta10 c30
        have hh32 := hH _ _ d2 d11 v17.toInt.toNat (by rw [c6]; omega)
        rw [show I0 a10 v17.toInt.toNat = v29 from c30] at hh32
        refine tr_iload_n dX12_dueIn_26 hl19 ?_
        refine q_callVi hE (M' := mX12_changesIn) (as := [_, _]) dX12_dueIn_27 lk12_413 inX12_changesIn seX12_changesIn myX12_changesIn (by decide) ⟨by decide, by decide⟩ rfl (kR15 hW0 ta0) (Nat.le_of_ble_eq_true rfl) rfl rfl (by decide) (by decide) (fk_X12_changesIn hW0  ta0 (by omega) (by omega)) ?_
        rintro v38 cn' K' N' I33 R34 L35 ⟨rfl, rfl, rfl, rfl, rfl, rfl, h39, rp40, -⟩
        have hc41 := SkM.ch hM d9 (by omega) (by omega) (by omega) (by omega) (rp40 _ d9)
        refine q_if_eq 37 dX12_dueIn_30 (by decide) (fun h42 => ?_) (fun h42 => ?_)
        · skip
          refine q_iconst dX12_dueIn_37 (by decide) ?_
          intro v43 h44
          refine q_iaddE dX12_dueIn_38 (by intros; omega) ?_
          intro v45 h46
          refine tr_istore_n dX12_dueIn_39 (by decide) (by decide) ?_
          refine q_iincE dX12_dueIn_40 hl21 (by decide) (by decide) (by intros; omega) ?_
          intro v47 h48
          refine tr_goto 4 dX12_dueIn_43 (by decide) ?_
          exact ih26 _ v45 v47 hl18 hl19 rfl rfl (by omega) (by omega) (by omega) (by have e := hc41; rw [hh32.1] at e; rw [show v47.toInt.toNat = v17.toInt.toNat + 1 by omega, cnM]; have w := rw25; omega) (by omega)
        · skip
          refine q_iconst dX12_dueIn_33 (by decide) ?_
          intro v49 h50
          refine tr_goto 38 dX12_dueIn_34 (by decide) ?_
          refine q_iaddE dX12_dueIn_38 (by intros; omega) ?_
          intro v51 h52
          refine tr_istore_n dX12_dueIn_39 (by decide) (by decide) ?_
          refine q_iincE dX12_dueIn_40 hl21 (by decide) (by decide) (by intros; omega) ?_
          intro v53 h54
          refine tr_goto 4 dX12_dueIn_43 (by decide) ?_
          exact ih26 _ v51 v53 hl18 hl19 rfl rfl (by omega) (by omega) (by omega) (by have e := hc41; rw [hh32.1] at e; rw [show v53.toInt.toNat = v17.toInt.toNat + 1 by omega, cnM]; have w := rw25; omega) (by omega)
  exact lp26 _ _ v12 v14 rfl rfl rfl rfl (by omega) (by omega) (by omega) (by rw [show v14.toInt.toNat = 0 by omega]; show _ = (0 : Int); omega) (Nat.lt_succ_self _)
def wik_X12_peak : List Nat := [960, 961, 962, 5247, 5311, 5375, 5439, 5503, 5567]
def wrk_X12_peak : List Nat := []
def Cs_X12_peak (T : Nat → Nat) (I0 : cz_I) (R0 : cz_R) (a0 : Nat) (gX : Nat → Nat → Int) (gH : Nat → Int) (v : Int32) (I' : cz_I) (R' : cz_R) : Prop :=
  ((v.toInt = -1) ∧ (R0 a0 3 = none) ∧ True) ∨
  ((∃ b, R0 a0 3 = some b) ∧ (∀ b w, R0 a0 3 = some b → R0 a0 16 = some w → ∃ most, PkI (fun k => skD gX (-1) ((I0 b 2).toInt + (I0 w 1).toInt).toNat (I0 b 1).toInt gH (I0 b 3).toInt.toNat (k : Int)) (I0 b 0).toInt most v.toInt) ∧ True)
set_option maxHeartbeats 4000000 in
theorem fk_X12_peak {l : Launch} {T : Nat → Nat} {cn : Nat} {K N : Nat → Nat} {I0 : cz_I} {R0 : cz_R} {L0 : cz_L} {d : Int} (hW0 : Wf T cn K N I0 R0 d) (gX : Nat → Nat → Int) (gH : Nat → Int) {a0 : Nat} (ta0 : T a0 = 15) (hX : EvY I0 R0 a0 gX) (hH : ∀ b r, R0 a0 3 = some b → R0 b 15 = some r → ∀ k : Nat, (k : Int) < (I0 b 3).toInt → (I0 r k).toInt = gH k ∧ 0 ≤ gH k ∧ gH k < (I0 b 1).toInt ∧ gH k ≤ 3) : ConE l mX12_peak [.ref a0] cn K N I0 R0 L0 (ca_i (fun v cn' K' N' I' R' L' => cn = cn' ∧ K = K' ∧ N = N' ∧ R0 = R' ∧ L0 = L' ∧ St T cn K N d wik_X12_peak wrk_X12_peak I0 R0 I' R0 ∧ Cs_X12_peak T I0 R0 a0 gX gH v I' R0 ∧ True)) := by
  refine ConE.of (by decide +kernel) rfl (Nat.le_of_ble_eq_true rfl) rfl (fun X hX hZ hE => ?_)
  subst hX
  have hS0 : St T cn K N d wik_X12_peak wrk_X12_peak I0 R0 I0 R0 := St.rf0 hW0
  obtain ⟨a1, d2, ta1⟩ := rf15_16 hW0 ta0
  rcases rf15_3 hW0 ta0 with d4 | ⟨a3, d4, ta3⟩
  · skip
    refine tr_aload_n dX12_peak_0 rfl ?_
    refine q_iconst dX12_peak_1 (by decide) ?_
    intro v5 h6
    refine q_putI dX12_peak_2 fl12_70 (kR15 hS0.1 ta0) (Or.inl rfl) hS0 ta0 (iokF rfl) rfl (by decide +kernel) ?_
    intro I7 hS8 e9 f10
    refine tr_aload_n dX12_peak_5 rfl ?_
    refine tr_getN dX12_peak_6 fl12_385 (kR15 hS8.1 ta0) d4 ?_
    refine tr_ifnonnullN dX12_peak_9 ?_
    refine tr_aload_n dX12_peak_12 rfl ?_
    refine q_iconst dX12_peak_13 (by decide) ?_
    intro v11 h12
    refine q_callVi hE (M' := mX12_refused) (as := [_]) dX12_peak_14 lk12_76 inX12_refused seX12_refused myX12_refused (by decide) ⟨by decide, by decide⟩ rfl (kR15 hS8.1 ta0) (Nat.le_of_ble_eq_true rfl) rfl rfl (by decide) (by decide) (fk_X12_refused hS8.1  ta0) ?_
    rintro v18 cn' K' N' I13 R14 L15 ⟨rfl, rfl, rfl, rfl, rfl, g16, p19, p20, p21, -⟩
    have hS22 := hS8.tr g16 (by decide +kernel) (by decide +kernel)
    have c23 : I13 a0 0 = v5 := (g16.cell ta0 (by decide +kernel)).trans e9
    obtain ⟨v24, c25⟩ : ∃ v, I13 a0 1 = v := ⟨_, rfl⟩
    rw [c25] at p20
    obtain ⟨v26, c27⟩ : ∃ v, I13 a0 2 = v := ⟨_, rfl⟩
    rw [c27] at p21
    exact tr_iret hZ dX12_peak_17 rfl (by decide) (by decide) ⟨v18, rfl, rfl, rfl, rfl, rfl, rfl, hS22, (Or.inl ⟨(by first | done | with_reducible assumption | omega), d4, trivial⟩), trivial⟩
  · skip
    obtain ⟨v28, c29⟩ : ∃ v, I0 a3 3 = v := ⟨_, rfl⟩
    have b30 := iv14_3 hW0 ta3 c29
    obtain ⟨v31, c32⟩ : ∃ v, I0 a3 1 = v := ⟨_, rfl⟩
    have b33 := iv14_1 hW0 ta3 c32
    obtain ⟨a34, d35, ta34⟩ := rf14_15 hW0 ta3
    refine tr_aload_n dX12_peak_0 rfl ?_
    refine q_iconst dX12_peak_1 (by decide) ?_
    intro v36 h37
    refine q_putI dX12_peak_2 fl12_70 (kR15 hS0.1 ta0) (Or.inl rfl) hS0 ta0 (iokF rfl) rfl (by decide +kernel) ?_
    intro I38 hS39 e40 f41
    refine tr_aload_n dX12_peak_5 rfl ?_
    refine tr_getR dX12_peak_6 fl12_385 (kR15 hS39.1 ta0) d4 ?_
    refine tr_ifnonnull 18 dX12_peak_9 (by decide) ?_
    refine tr_aload_n dX12_peak_18 rfl ?_
    refine q_iconst dX12_peak_19 (by decide) ?_
    intro v42 h43
    obtain ⟨v44, c45⟩ : ∃ v, I0 a3 0 = v := ⟨_, rfl⟩
    have b46 := hW0.2.2.2.2.2.1 a0 ta0 _ d4
    rw [c45] at b46
    have b47 := iv14_0 hW0 ta3 c45
    obtain ⟨v48, c49⟩ : ∃ v, I0 a3 2 = v := ⟨_, rfl⟩
    have b50 := iv14_2 hW0 ta3 c49
    obtain ⟨v51, c52⟩ : ∃ v, I0 a1 1 = v := ⟨_, rfl⟩
    have b53 := iv77_1 hW0 ta1 (by decide) c52
    refine q_callVv hE (M' := mX12_laysLight) (as := [_]) dX12_peak_20 lk12_434 inX12_laysLight seX12_laysLight myX12_laysLight (by decide) ⟨by decide, by decide⟩ rfl (kR15 hS39.1 ta0) (Nat.le_of_ble_eq_true rfl) rfl rfl (by decide) (by decide) (fk_X12_laysLight hS39.1 (gX) ta0 (EvY.st hX hW0 ta0 hS39 (by decide +kernel)) ⟨_, d4⟩) ?_
    rintro cn' K' N' I54 R55 L56 ⟨rfl, rfl, rfl, rfl, rfl, g57, rp60, -⟩
    have hS61 := hS39.tr g57 (by decide +kernel) (by decide +kernel)
    have c62 : I54 a0 0 = v36 := (g57.cell ta0 (by decide +kernel)).trans e40
    have hz63 := rp60 _ _ d4 d2
    rw [((hS39.cell ta3 (by decide +kernel)).trans c45), ((hS39.cell ta3 (by decide +kernel)).trans c32), ((hS39.cell ta3 (by decide +kernel)).trans c49), ((hS39.cell ta1 (by decide +kernel)).trans c52), show v42.toInt = -1 by omega] at hz63
    refine q_bipush dX12_peak_23 (by decide +kernel) ?_
    intro v64 h65
    refine tr_istore_n dX12_peak_25 (by decide) (by decide) ?_
    refine q_iconst dX12_peak_26 (by decide) ?_
    intro v66 h67
    refine tr_istore_n dX12_peak_27 (by decide) (by decide) ?_
    have lp82 : ∀ (fu : Nat) (ls : Nat → Option Value) (v68 : Int32) (v69 : Int32) (I73 : cz_I), ls 0 = some (.ref a0) → ls 1 = some (.int v68) → ls 2 = some (.int v69) → St T cn K N d wik_X12_peak wrk_X12_peak I0 R0 I73 R0 → 0 ≤ v69.toInt → -2 ≤ v68.toInt → (v68.toInt = -2 ∨ 0 ≤ v68.toInt) → v68.toInt < v69.toInt → (∃ most, PkI (fun k => skD gX (-1) (v48.toInt + v51.toInt).toNat v31.toInt gH v28.toInt.toNat (k : Int)) v69.toInt most v68.toInt) → (SkM I73 R0 a0 v44.toInt v31.toInt (-1) gX (v48.toInt + v51.toInt).toNat v44.toInt v44.toInt 0) → (v69.toInt ≤ v44.toInt) → (-v69.toInt + 2147483647).toNat < fu → Tr X mX12_peak 28 ls [] cn K N I73 R0 L0 0 0 := by
      intro fu
      induction fu with
      | zero => intros; rename_i hz; exact absurd hz (Nat.not_lt_zero _)
      | succ fu ih82 =>
        intro ls v68 v69 I73 hl70 hl71 hl72 hS74 g75 g76 g77 g78 rw79 rw80 rw81 hm82
        refine tr_iload_n dX12_peak_28 hl72 ?_
        refine tr_aload_n dX12_peak_29 hl70 ?_
        refine tr_getR dX12_peak_30 fl12_385 (kR15 hS74.1 ta0) d4 ?_
        refine q_getI dX12_peak_33 fl12_192 (kR14 hS74.1 ta3) ((hS74.cell ta3 (by decide +kernel)).trans c45) ?_
        refine q_icmp_ge 70 dX12_peak_36 (by decide) (fun h84 => ?_) (fun h84 => ?_)
        · skip
          refine tr_aload_n dX12_peak_70 hl70 ?_
          refine tr_iload_n dX12_peak_71 hl71 ?_
          refine q_callVi hE (M' := mX12_good) (as := [_]) dX12_peak_72 lk12_81 inX12_good seX12_good myX12_good (by decide) ⟨by decide, by decide⟩ rfl (kR15 hS74.1 ta0) (Nat.le_of_ble_eq_true rfl) rfl rfl (by decide) (by decide) (fk_X12_good hS74.1  ta0) ?_
          rintro v90 cn' K' N' I85 R86 L87 ⟨rfl, rfl, rfl, rfl, rfl, g88, p91, p92, p93, -⟩
          have hS94 := hS74.tr g88 (by decide +kernel) (by decide +kernel)
          obtain ⟨v95, c96⟩ : ∃ v, I85 a0 1 = v := ⟨_, rfl⟩
          rw [c96] at p92
          obtain ⟨v97, c98⟩ : ∃ v, I85 a0 2 = v := ⟨_, rfl⟩
          rw [c98] at p93
          exact tr_iret hZ dX12_peak_75 rfl (by decide) (by decide) ⟨v90, rfl, rfl, rfl, rfl, rfl, rfl, hS94, (Or.inr (⟨⟨_, d4⟩, (fun b w hb hw => by obtain rfl := Option.some.inj (d4.symm.trans hb); obtain rfl := Option.some.inj (d2.symm.trans hw); rw [c45, c32, c49, c52, c29]; obtain ⟨most, w⟩ := rw79; exact ⟨most, by rw [show v90.toInt = v68.toInt by omega, show v44.toInt = v69.toInt by omega]; exact w⟩), trivial⟩)), trivial⟩
        · skip
          refine tr_aload_n dX12_peak_39 hl70 ?_
          refine tr_iload_n dX12_peak_40 hl72 ?_
          refine q_callVi hE (M' := mX12_dueIn) (as := [_]) dX12_peak_41 lk12_449 inX12_dueIn seX12_dueIn myX12_dueIn (by decide) ⟨by decide, by decide⟩ rfl (kR15 hS74.1 ta0) (Nat.le_of_ble_eq_true rfl) rfl rfl (by decide) (by decide) (fk_X12_dueIn hS74.1 (gX) (v44.toInt) (v31.toInt) ((-1)) ((v48.toInt + v51.toInt).toNat) (gH) ta0 (by omega) rw80 (fun b r hb hr k hk => by obtain rfl := Option.some.inj (d4.symm.trans hb); obtain rfl := Option.some.inj (d35.symm.trans hr); rw [hS74.cell ta3 (by decide +kernel)] at hk; rw [hS74.cell ta34 (wm_no (by decide +kernel))]; have z := hH _ _ d4 d35 k hk; rw [c32] at z; exact z) (by first | done | with_reducible assumption | omega) (by first | done | with_reducible assumption | omega) ⟨_, d4⟩) ?_
          rintro v104 cn' K' N' I99 R100 L101 ⟨rfl, rfl, rfl, rfl, rfl, rfl, h105, rp106, -⟩
          have hd107 := rp106 _ d4
          rw [((hS74.cell ta3 (by decide +kernel)).trans c29)] at hd107
          refine tr_iload_n dX12_peak_44 hl71 ?_
          refine q_bipush dX12_peak_45 (by decide +kernel) ?_
          intro v108 h109
          refine q_icmp_ne 54 dX12_peak_47 (by decide) (fun h110 => ?_) (fun h110 => ?_)
          · skip
            refine tr_aload_n dX12_peak_54 hl70 ?_
            refine tr_iload_n dX12_peak_55 hl71 ?_
            refine q_callVi hE (M' := mX12_dueIn) (as := [_]) dX12_peak_56 lk12_449 inX12_dueIn seX12_dueIn myX12_dueIn (by decide) ⟨by decide, by decide⟩ rfl (kR15 hS74.1 ta0) (Nat.le_of_ble_eq_true rfl) rfl rfl (by decide) (by decide) (fk_X12_dueIn hS74.1 (gX) (v44.toInt) (v31.toInt) ((-1)) ((v48.toInt + v51.toInt).toNat) (gH) ta0 (by omega) rw80 (fun b r hb hr k hk => by obtain rfl := Option.some.inj (d4.symm.trans hb); obtain rfl := Option.some.inj (d35.symm.trans hr); rw [hS74.cell ta3 (by decide +kernel)] at hk; rw [hS74.cell ta34 (wm_no (by decide +kernel))]; have z := hH _ _ d4 d35 k hk; rw [c32] at z; exact z) (by first | done | with_reducible assumption | omega) (by first | done | with_reducible assumption | omega) ⟨_, d4⟩) ?_
            rintro v116 cn' K' N' I111 R112 L113 ⟨rfl, rfl, rfl, rfl, rfl, rfl, h117, rp118, -⟩
            have hd119 := rp118 _ d4
            rw [((hS74.cell ta3 (by decide +kernel)).trans c29)] at hd119
            refine q_icmp_le 64 dX12_peak_59 (by decide) (fun h120 => ?_) (fun h120 => ?_)
            · skip
              refine q_iincE dX12_peak_64 hl72 (by decide) (by decide) (by intros; omega) ?_
              intro v121 h122
              refine tr_goto 28 dX12_peak_67 (by decide) ?_
              exact ih82 _ v68 v121 I73 hl70 hl71 rfl hS74 (by omega) (by omega) (by omega) (by omega) (by obtain ⟨most, w⟩ := rw79; have hg : (fun k => skD gX (-1) (v48.toInt + v51.toInt).toNat v31.toInt gH v28.toInt.toNat (k : Int)) v69.toInt.toNat = v104.toInt := (by show skD _ _ _ _ _ _ _ = _; rw [show ((v69.toInt.toNat : Nat) : Int) = v69.toInt by omega]; omega); have hm := PkI.m1 w (by omega); have hm : skD _ _ _ _ _ _ _ = _ := hm; rw [show ((v68.toInt.toNat : Nat) : Int) = v68.toInt by omega] at hm; have hz := hd119; exact ⟨most, PkI.no w v69.toInt.toNat (by omega) (by omega) (Int.le_trans (Int.le_of_eq hg) (by omega))⟩) rw80 (by omega) (by omega)
            · skip
              refine tr_iload_n dX12_peak_62 hl72 ?_
              refine tr_istore_n dX12_peak_63 (by decide) (by decide) ?_
              refine q_iincE dX12_peak_64 hl72 (by decide) (by decide) (by intros; omega) ?_
              intro v123 h124
              refine tr_goto 28 dX12_peak_67 (by decide) ?_
              exact ih82 _ v69 v123 I73 hl70 rfl rfl hS74 (by omega) (by omega) (by omega) (by omega) (by obtain ⟨most, w⟩ := rw79; have hg : (fun k => skD gX (-1) (v48.toInt + v51.toInt).toNat v31.toInt gH v28.toInt.toNat (k : Int)) v69.toInt.toNat = v104.toInt := (by show skD _ _ _ _ _ _ _ = _; rw [show ((v69.toInt.toNat : Nat) : Int) = v69.toInt by omega]; omega); have hm := PkI.m1 w (by omega); have hm : skD _ _ _ _ _ _ _ = _ := hm; rw [show ((v68.toInt.toNat : Nat) : Int) = v68.toInt by omega] at hm; have hz := hd119; exact ⟨_, PkI.up w v69.toInt.toNat (by omega) (by omega) hg (by omega) (by omega)⟩) rw80 (by omega) (by omega)
          · skip
            refine q_iconst dX12_peak_50 (by decide) ?_
            intro v125 h126
            refine tr_goto 59 dX12_peak_51 (by decide) ?_
            refine q_icmp_le 64 dX12_peak_59 (by decide) (fun h127 => ?_) (fun h127 => ?_)
            · skip
              refine q_iincE dX12_peak_64 hl72 (by decide) (by decide) (by intros; omega) ?_
              intro v128 h129
              refine tr_goto 28 dX12_peak_67 (by decide) ?_
              exact ih82 _ v68 v128 I73 hl70 hl71 rfl hS74 (by omega) (by omega) (by omega) (by omega) (by obtain ⟨most, w⟩ := rw79; have hg : (fun k => skD gX (-1) (v48.toInt + v51.toInt).toNat v31.toInt gH v28.toInt.toNat (k : Int)) v69.toInt.toNat = v104.toInt := (by show skD _ _ _ _ _ _ _ = _; rw [show ((v69.toInt.toNat : Nat) : Int) = v69.toInt by omega]; omega); have hm : most = 0 := PkI.m0 w (by omega); exact ⟨most, PkI.no w v69.toInt.toNat (by omega) (by omega) (Int.le_trans (Int.le_of_eq hg) (by omega))⟩) rw80 (by omega) (by omega)
            · skip
              refine tr_iload_n dX12_peak_62 hl72 ?_
              refine tr_istore_n dX12_peak_63 (by decide) (by decide) ?_
              refine q_iincE dX12_peak_64 hl72 (by decide) (by decide) (by intros; omega) ?_
              intro v130 h131
              refine tr_goto 28 dX12_peak_67 (by decide) ?_
              exact ih82 _ v69 v130 I73 hl70 rfl rfl hS74 (by omega) (by omega) (by omega) (by omega) (by obtain ⟨most, w⟩ := rw79; have hg : (fun k => skD gX (-1) (v48.toInt + v51.toInt).toNat v31.toInt gH v28.toInt.toNat (k : Int)) v69.toInt.toNat = v104.toInt := (by show skD _ _ _ _ _ _ _ = _; rw [show ((v69.toInt.toNat : Nat) : Int) = v69.toInt by omega]; omega); have hm : most = 0 := PkI.m0 w (by omega); exact ⟨_, PkI.up w v69.toInt.toNat (by omega) (by omega) hg (by omega) (by omega)⟩) rw80 (by omega) (by omega)
    exact lp82 _ _ v64 v66 I54 rfl rfl rfl hS61 (by omega) (by omega) (by omega) (by omega) ⟨0, PkI.z (by omega) rfl (by omega)⟩ hz63 (by omega) (Nat.lt_succ_self _)
def wik_X12_due : List Nat := [960, 961, 962, 5247, 5311, 5375, 5439, 5503, 5567]
def wrk_X12_due : List Nat := []
def Cs_X12_due (T : Nat → Nat) (I0 : cz_I) (R0 : cz_R) (a0 : Nat) (gX : Nat → Nat → Int) (gH : Nat → Int) (x1 : Int32) (v : Int32) (I' : cz_I) (R' : cz_R) : Prop :=
  ((v.toInt = -1) ∧ (R0 a0 3 = none) ∧ True) ∨
  ((∀ b1, R0 a0 3 = some b1 → (x1.toInt < 0 ∨ x1.toInt ≥ (I0 b1 0).toInt)) ∧ (v.toInt = -1) ∧ (∃ b, R0 a0 3 = some b) ∧ True) ∨
  ((0 ≤ x1.toInt) ∧ (∀ b1, R0 a0 3 = some b1 → x1.toInt < (I0 b1 0).toInt) ∧ (∃ b, R0 a0 3 = some b) ∧ (∀ b w, R0 a0 3 = some b → R0 a0 16 = some w → v.toInt = skD gX (-1) ((I0 b 2).toInt + (I0 w 1).toInt).toNat (I0 b 1).toInt gH (I0 b 3).toInt.toNat x1.toInt) ∧ True)
set_option maxHeartbeats 4000000 in
theorem fk_X12_due {l : Launch} {T : Nat → Nat} {cn : Nat} {K N : Nat → Nat} {I0 : cz_I} {R0 : cz_R} {L0 : cz_L} {d : Int} (hW0 : Wf T cn K N I0 R0 d) (gX : Nat → Nat → Int) (gH : Nat → Int) {a0 : Nat} (ta0 : T a0 = 15) {x1 : Int32} (hX : EvY I0 R0 a0 gX) (hH : ∀ b r, R0 a0 3 = some b → R0 b 15 = some r → ∀ k : Nat, (k : Int) < (I0 b 3).toInt → (I0 r k).toInt = gH k ∧ 0 ≤ gH k ∧ gH k < (I0 b 1).toInt ∧ gH k ≤ 3) : ConE l mX12_due [.ref a0, .int x1] cn K N I0 R0 L0 (ca_i (fun v cn' K' N' I' R' L' => cn = cn' ∧ K = K' ∧ N = N' ∧ R0 = R' ∧ L0 = L' ∧ St T cn K N d wik_X12_due wrk_X12_due I0 R0 I' R0 ∧ Cs_X12_due T I0 R0 a0 gX gH x1 v I' R0 ∧ True)) := by
  refine ConE.of (by decide +kernel) rfl (Nat.le_of_ble_eq_true rfl) rfl (fun X hX hZ hE => ?_)
  subst hX
  have hS0 : St T cn K N d wik_X12_due wrk_X12_due I0 R0 I0 R0 := St.rf0 hW0
  obtain ⟨a1, d2, ta1⟩ := rf15_16 hW0 ta0
  rcases rf15_3 hW0 ta0 with d4 | ⟨a3, d4, ta3⟩
  · skip
    refine tr_aload_n dX12_due_0 rfl ?_
    refine q_iconst dX12_due_1 (by decide) ?_
    intro v5 h6
    refine q_putI dX12_due_2 fl12_70 (kR15 hS0.1 ta0) (Or.inl rfl) hS0 ta0 (iokF rfl) rfl (by decide +kernel) ?_
    intro I7 hS8 e9 f10
    refine tr_aload_n dX12_due_5 rfl ?_
    refine tr_getN dX12_due_6 fl12_385 (kR15 hS8.1 ta0) d4 ?_
    refine tr_ifnonnullN dX12_due_9 ?_
    refine tr_aload_n dX12_due_12 rfl ?_
    refine q_iconst dX12_due_13 (by decide) ?_
    intro v11 h12
    refine q_callVi hE (M' := mX12_refused) (as := [_]) dX12_due_14 lk12_76 inX12_refused seX12_refused myX12_refused (by decide) ⟨by decide, by decide⟩ rfl (kR15 hS8.1 ta0) (Nat.le_of_ble_eq_true rfl) rfl rfl (by decide) (by decide) (fk_X12_refused hS8.1  ta0) ?_
    rintro v18 cn' K' N' I13 R14 L15 ⟨rfl, rfl, rfl, rfl, rfl, g16, p19, p20, p21, -⟩
    have hS22 := hS8.tr g16 (by decide +kernel) (by decide +kernel)
    have c23 : I13 a0 0 = v5 := (g16.cell ta0 (by decide +kernel)).trans e9
    obtain ⟨v24, c25⟩ : ∃ v, I13 a0 1 = v := ⟨_, rfl⟩
    rw [c25] at p20
    obtain ⟨v26, c27⟩ : ∃ v, I13 a0 2 = v := ⟨_, rfl⟩
    rw [c27] at p21
    exact tr_iret hZ dX12_due_17 rfl (by decide) (by decide) ⟨v18, rfl, rfl, rfl, rfl, rfl, rfl, hS22, (Or.inl ⟨(by first | done | with_reducible assumption | omega), d4, trivial⟩), trivial⟩
  · skip
    obtain ⟨v28, c29⟩ : ∃ v, I0 a3 3 = v := ⟨_, rfl⟩
    have b30 := iv14_3 hW0 ta3 c29
    obtain ⟨v31, c32⟩ : ∃ v, I0 a3 1 = v := ⟨_, rfl⟩
    have b33 := iv14_1 hW0 ta3 c32
    obtain ⟨a34, d35, ta34⟩ := rf14_15 hW0 ta3
    refine tr_aload_n dX12_due_0 rfl ?_
    refine q_iconst dX12_due_1 (by decide) ?_
    intro v36 h37
    refine q_putI dX12_due_2 fl12_70 (kR15 hS0.1 ta0) (Or.inl rfl) hS0 ta0 (iokF rfl) rfl (by decide +kernel) ?_
    intro I38 hS39 e40 f41
    refine tr_aload_n dX12_due_5 rfl ?_
    refine tr_getR dX12_due_6 fl12_385 (kR15 hS39.1 ta0) d4 ?_
    refine tr_ifnonnull 18 dX12_due_9 (by decide) ?_
    refine tr_aload_n dX12_due_18 rfl ?_
    refine tr_iload_n dX12_due_19 rfl ?_
    obtain ⟨v42, c43⟩ : ∃ v, I0 a3 0 = v := ⟨_, rfl⟩
    have b44 := hW0.2.2.2.2.2.1 a0 ta0 _ d4
    rw [c43] at b44
    have b45 := iv14_0 hW0 ta3 c43
    refine q_callVi hE (M' := mX12_isMinute) (as := [_]) dX12_due_20 lk12_443 inX12_isMinute seX12_isMinute myX12_isMinute (by decide) ⟨by decide, by decide⟩ rfl (kR15 hS39.1 ta0) (Nat.le_of_ble_eq_true rfl) rfl rfl (by decide) (by decide) (fk_X12_isMinute hS39.1  ta0 ⟨_, d4⟩) ?_
    rintro v51 cn' K' N' I46 R47 L48 ⟨rfl, rfl, rfl, rfl, rfl, rfl, h52, p53, p54, -⟩
    have p55 := p53 _ d4
    clear p53
    rw [((hS39.cell ta3 (by decide +kernel)).trans c43)] at p55
    have p56 := p54 _ d4
    clear p54
    rw [((hS39.cell ta3 (by decide +kernel)).trans c43)] at p56
    refine q_if_ne 32 dX12_due_23 (by decide) (fun h57 => ?_) (fun h57 => ?_)
    · skip
      refine tr_aload_n dX12_due_32 rfl ?_
      refine q_iconst dX12_due_33 (by decide) ?_
      intro v58 h59
      obtain ⟨v60, c61⟩ : ∃ v, I0 a3 2 = v := ⟨_, rfl⟩
      have b62 := iv14_2 hW0 ta3 c61
      obtain ⟨v63, c64⟩ : ∃ v, I0 a1 1 = v := ⟨_, rfl⟩
      have b65 := iv77_1 hW0 ta1 (by decide) c64
      refine q_callVv hE (M' := mX12_laysLight) (as := [_]) dX12_due_34 lk12_434 inX12_laysLight seX12_laysLight myX12_laysLight (by decide) ⟨by decide, by decide⟩ rfl (kR15 hS39.1 ta0) (Nat.le_of_ble_eq_true rfl) rfl rfl (by decide) (by decide) (fk_X12_laysLight hS39.1 (gX) ta0 (EvY.st hX hW0 ta0 hS39 (by decide +kernel)) ⟨_, d4⟩) ?_
      rintro cn' K' N' I66 R67 L68 ⟨rfl, rfl, rfl, rfl, rfl, g69, rp72, -⟩
      have hS73 := hS39.tr g69 (by decide +kernel) (by decide +kernel)
      have c74 : I66 a0 0 = v36 := (g69.cell ta0 (by decide +kernel)).trans e40
      have hz75 := rp72 _ _ d4 d2
      rw [((hS39.cell ta3 (by decide +kernel)).trans c43), ((hS39.cell ta3 (by decide +kernel)).trans c32), ((hS39.cell ta3 (by decide +kernel)).trans c61), ((hS39.cell ta1 (by decide +kernel)).trans c64), show v58.toInt = -1 by omega] at hz75
      refine tr_aload_n dX12_due_37 rfl ?_
      refine tr_aload_n dX12_due_38 rfl ?_
      refine tr_iload_n dX12_due_39 rfl ?_
      refine q_callVi hE (M' := mX12_dueIn) (as := [_]) dX12_due_40 lk12_449 inX12_dueIn seX12_dueIn myX12_dueIn (by decide) ⟨by decide, by decide⟩ rfl (kR15 hS73.1 ta0) (Nat.le_of_ble_eq_true rfl) rfl rfl (by decide) (by decide) (fk_X12_dueIn hS73.1 (gX) (v42.toInt) (v31.toInt) ((-1)) ((v60.toInt + v63.toInt).toNat) (gH) ta0 (by omega) hz75 (fun b r hb hr k hk => by obtain rfl := Option.some.inj (d4.symm.trans hb); obtain rfl := Option.some.inj (d35.symm.trans hr); rw [hS73.cell ta3 (by decide +kernel)] at hk; rw [hS73.cell ta34 (wm_no (by decide +kernel))]; have z := hH _ _ d4 d35 k hk; rw [c32] at z; exact z) (by first | done | with_reducible assumption | omega) (by first | done | with_reducible assumption | omega) ⟨_, d4⟩) ?_
      rintro v81 cn' K' N' I76 R77 L78 ⟨rfl, rfl, rfl, rfl, rfl, rfl, h82, rp83, -⟩
      have hd84 := rp83 _ d4
      rw [((hS73.cell ta3 (by decide +kernel)).trans c29)] at hd84
      refine q_callVi hE (M' := mX12_good) (as := [_]) dX12_due_43 lk12_81 inX12_good seX12_good myX12_good (by decide) ⟨by decide, by decide⟩ rfl (kR15 hS73.1 ta0) (Nat.le_of_ble_eq_true rfl) rfl rfl (by decide) (by decide) (fk_X12_good hS73.1  ta0) ?_
      rintro v90 cn' K' N' I85 R86 L87 ⟨rfl, rfl, rfl, rfl, rfl, g88, p91, p92, p93, -⟩
      have hS94 := hS73.tr g88 (by decide +kernel) (by decide +kernel)
      have c95 : I85 a0 0 = v36 := (g88.cell ta0 (by decide +kernel)).trans c74
      obtain ⟨v96, c97⟩ : ∃ v, I85 a0 1 = v := ⟨_, rfl⟩
      rw [c97] at p92
      obtain ⟨v98, c99⟩ : ∃ v, I85 a0 2 = v := ⟨_, rfl⟩
      rw [c99] at p93
      exact tr_iret hZ dX12_due_46 rfl (by decide) (by decide) ⟨v90, rfl, rfl, rfl, rfl, rfl, rfl, hS94, (Or.inr (Or.inr (⟨(by first | done | with_reducible assumption | omega), (fun q0 z0 => by obtain rfl := Option.some.inj ((d4).symm.trans z0); (try rw [c43]); first | done | with_reducible assumption | omega), ⟨_, d4⟩, (fun b w hb hw => by obtain rfl := Option.some.inj (d4.symm.trans hb); obtain rfl := Option.some.inj (d2.symm.trans hw); rw [c32, c61, c64, c29]; have e := hd84; omega), trivial⟩))), trivial⟩
    · skip
      refine tr_aload_n dX12_due_26 rfl ?_
      refine q_iconst dX12_due_27 (by decide) ?_
      intro v100 h101
      refine q_callVi hE (M' := mX12_refused) (as := [_]) dX12_due_28 lk12_76 inX12_refused seX12_refused myX12_refused (by decide) ⟨by decide, by decide⟩ rfl (kR15 hS39.1 ta0) (Nat.le_of_ble_eq_true rfl) rfl rfl (by decide) (by decide) (fk_X12_refused hS39.1  ta0) ?_
      rintro v107 cn' K' N' I102 R103 L104 ⟨rfl, rfl, rfl, rfl, rfl, g105, p108, p109, p110, -⟩
      have hS111 := hS39.tr g105 (by decide +kernel) (by decide +kernel)
      have c112 : I102 a0 0 = v36 := (g105.cell ta0 (by decide +kernel)).trans e40
      obtain ⟨v113, c114⟩ : ∃ v, I102 a0 1 = v := ⟨_, rfl⟩
      rw [c114] at p109
      obtain ⟨v115, c116⟩ : ∃ v, I102 a0 2 = v := ⟨_, rfl⟩
      rw [c116] at p110
      exact tr_iret hZ dX12_due_31 rfl (by decide) (by decide) ⟨v107, rfl, rfl, rfl, rfl, rfl, rfl, hS111, (by first | exact Or.inr (Or.inl ⟨(fun q0 z0 => by obtain rfl := Option.some.inj ((d4).symm.trans z0); (try rw [c43]); first | done | with_reducible assumption | omega), (by first | done | with_reducible assumption | omega), ⟨_, d4⟩, trivial⟩) | exact Or.inr (Or.inr (⟨(by first | done | with_reducible assumption | omega), (fun q0 z0 => by obtain rfl := Option.some.inj ((d4).symm.trans z0); (try rw [c43]); first | done | with_reducible assumption | omega), ⟨_, d4⟩, (by exfalso; omega), trivial⟩))), trivial⟩

