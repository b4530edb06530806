def wik_X12_denied : List Nat := [961, 962]
def wrk_X12_denied : List Nat := []
set_option maxHeartbeats 4000000 in
theorem fk_X12_denied {l : Launch} {T : Nat → Nat} {cn : Nat} {K N : Nat → Nat} {I0 : cz_I} {R0 : cz_R} {L0 : cz_L} {d : Int} (hW0 : Wf T cn K N I0 R0 d)  {a0 : Nat} (ta0 : T a0 = 15) {x1 : Int32} : ConE l mX12_denied [.ref a0, .int x1] cn K N I0 R0 L0 (ca_i (fun v cn' K' N' I' R' L' => cn = cn' ∧ K = K' ∧ N = N' ∧ R0 = R' ∧ L0 = L' ∧ St T cn K N d wik_X12_denied wrk_X12_denied I0 R0 I' R0 ∧ (0 ≤ v.toInt ∧ v.toInt ≤ 1) ∧ (v.toInt = 0) ∧ True)) := by
  refine ConE.of (by decide +kernel) rfl (Nat.le_of_ble_eq_true rfl) rfl (fun X hX hZ hE => ?_)
  subst hX
  have hS0 : St T cn K N d wik_X12_denied wrk_X12_denied I0 R0 I0 R0 := St.rf0 hW0
  refine tr_aload_n dX12_denied_0 rfl ?_
  refine tr_iload_n dX12_denied_1 rfl ?_
  refine q_callVi hE (M' := mX12_refused) (as := [_]) dX12_denied_2 lk12_76 inX12_refused seX12_refused myX12_refused (by decide) ⟨by decide, by decide⟩ rfl (kR15 hS0.1 ta0) (Nat.le_of_ble_eq_true rfl) rfl rfl (by decide) (by decide) (fk_X12_refused hS0.1  ta0) ?_
  rintro v6 cn' K' N' I1 R2 L3 ⟨rfl, rfl, rfl, rfl, rfl, g4, p7, p8, p9, -⟩
  have hS10 := hS0.tr g4 (by decide +kernel) (by decide +kernel)
  obtain ⟨v11, c12⟩ : ∃ v, I1 a0 1 = v := ⟨_, rfl⟩
  rw [c12] at p8
  obtain ⟨v13, c14⟩ : ∃ v, I1 a0 2 = v := ⟨_, rfl⟩
  rw [c14] at p9
  refine tr_pop dX12_denied_5 rfl ?_
  refine q_iconst dX12_denied_6 (by decide) ?_
  intro v15 h16
  exact tr_zret hZ dX12_denied_7 rfl (ti_b01 (by exact om_d99fa9e4 h16) (by exact om_d3de7ec9 h16)) (by decide) (by decide) ⟨v15, rfl, rfl, rfl, rfl, rfl, rfl, hS10, (by exact om_3b50ecb9 h16), (by first | done | with_reducible assumption | omega), trivial⟩
def wik_X12_keeps : List Nat := [979, 5055]
def wrk_X12_keeps : List Nat := []
set_option maxHeartbeats 4000000 in
theorem fk_X12_keeps {l : Launch} {T : Nat → Nat} {cn : Nat} {K N : Nat → Nat} {I0 : cz_I} {R0 : cz_R} {L0 : cz_L} {d : Int} (hW0 : Wf T cn K N I0 R0 d)  {a0 : Nat} (ta0 : T a0 = 15) : ConE l mX12_keeps [.ref a0] cn K N I0 R0 L0 (ca_v (fun cn' K' N' I' R' L' => cn = cn' ∧ K = K' ∧ N = N' ∧ R0 = R' ∧ L0 = L' ∧ St T cn K N d wik_X12_keeps wrk_X12_keeps I0 R0 I' R0 ∧ (((I0 a0 19).toInt < 12 → (I' a0 19).toInt = (I0 a0 19).toInt + 1)) ∧ (((I0 a0 19).toInt ≥ 12 → (I' a0 19).toInt = 12)) ∧ (∀ w p, R0 a0 16 = some w → R0 a0 17 = some p → KeM I0 I' w p (I0 a0 19).toInt) ∧ True)) := by
  refine ConE.of (by decide +kernel) rfl (Nat.le_of_ble_eq_true rfl) rfl (fun X hX hZ hE => ?_)
  subst hX
  have hS0 : St T cn K N d wik_X12_keeps wrk_X12_keeps I0 R0 I0 R0 := St.rf0 hW0
  obtain ⟨v1, c2⟩ : ∃ v, I0 a0 19 = v := ⟨_, rfl⟩
  have b3 := iv15_19 hS0.1 ta0 c2
  obtain ⟨v4, c5⟩ : ∃ v, I0 a0 20 = v := ⟨_, rfl⟩
  have b6 := iv15_20 hW0 ta0 c5
  obtain ⟨a7, d8, ta7⟩ := rf15_16 hW0 ta0
  obtain ⟨a9, d10, ta9⟩ := rf15_17 hW0 ta0
  obtain ⟨a11, d12, ta11⟩ := rf15_18 hW0 ta0
  obtain ⟨v13, c14⟩ : ∃ v, I0 a7 0 = v := ⟨_, rfl⟩
  obtain ⟨v15, c16⟩ : ∃ v, I0 a7 1 = v := ⟨_, rfl⟩
  have b17 := iv77_1 hW0 ta7 (by decide) c16
  obtain ⟨v18, c19⟩ : ∃ v, I0 a7 2 = v := ⟨_, rfl⟩
  have b20 := iv77_2 hW0 ta7 (by decide) c19
  refine tr_aload_n dX12_keeps_0 rfl ?_
  refine q_getI dX12_keeps_1 fl12_387 (kR15 hS0.1 ta0) c2 ?_
  refine q_bipush dX12_keeps_4 (by decide +kernel) ?_
  intro v21 h22
  refine q_icmp_ne 49 dX12_keeps_6 (by decide) (fun h23 => ?_) (fun h23 => ?_)
  · skip
    refine q_iconst dX12_keeps_49 (by decide) ?_
    intro v24 h25
    refine tr_istore_n dX12_keeps_50 (by decide) (by decide) ?_
    have lp39 : ∀ (fu : Nat) (ls : Nat → Option Value) (v26 : Int32) (I29 : cz_I) (v31 : Int32), ls 0 = some (.ref a0) → ls 1 = some (.int v26) → St T cn K N d wik_X12_keeps wrk_X12_keeps I0 R0 I29 R0 → I29 a0 19 = v31 → v31.toInt ≤ 11 → 0 ≤ v26.toInt → v26.toInt ≤ 15 → (v1.toInt < 12 → v31.toInt = v1.toInt) → (v1.toInt ≥ 12 → v31.toInt = 11) → (CpI (fun k => I0 a9 k) I0 I29 a7 a9 (15 * v31.toInt) v26.toInt) → (-v26.toInt + 2147483647).toNat < fu → Tr X mX12_keeps 51 ls [] cn K N I29 R0 L0 0 0 := by
      intro fu
      induction fu with
      | zero => intros; rename_i hz; exact absurd hz (Nat.not_lt_zero _)
      | succ fu ih39 =>
        intro ls v26 I29 v31 hl27 hl28 hS30 c32 g33 g34 g35 g36 g37 rw38 hm39
        have b41 := iv15_19 hS30.1 ta0 c32
        refine tr_iload_n dX12_keeps_51 hl28 ?_
        refine q_bipush dX12_keeps_52 (by decide +kernel) ?_
        intro v42 h43
        refine q_icmp_ge 83 dX12_keeps_54 (by decide) (fun h44 => ?_) (fun h44 => ?_)
        · skip
          refine tr_aload_n dX12_keeps_83 hl27 ?_
          refine tr_dup dX12_keeps_84 rfl ?_
          refine q_getI dX12_keeps_85 fl12_387 (kR15 hS30.1 ta0) c32 ?_
          refine q_iconst dX12_keeps_88 (by decide) ?_
          intro v45 h46
          refine q_iaddE dX12_keeps_89 (by intro j1 j2 j3 j4; exact om_10b3db6d g33 b41.1 h46) ?_
          intro v47 h48
          refine q_putI dX12_keeps_90 fl12_387 (kR15 hS30.1 ta0) (Or.inl rfl) hS30 ta0 (by show (0 : Int) ≤ v47.toInt ∧ v47.toInt ≤ (12 : Int); exact om_dccb45b7 g33 b41.1 h46 h48) rfl (by decide +kernel) ?_
          intro I49 hS50 e51 f52
          exact tr_vret hZ dX12_keeps_93 rfl (by decide) (by decide) ⟨rfl, rfl, rfl, rfl, rfl, rfl, hS50, (by (try rw [c2]); (try rw [e51]); first | done | with_reducible assumption | exact om_7d5977b7 b3.2 b3.1 g34 g35 g36 g37 h46 h48), (by (try rw [c2]); (try rw [e51]); first | done | with_reducible assumption | exact om_b356423c b3.2 b3.1 g33 g34 g35 g37 b41.1 h46 h48), (fun w p hw hp => by obtain rfl := Option.some.inj (d8.symm.trans hw); obtain rfl := Option.some.inj (d10.symm.trans hp); rw [c2]; exact KeM.of1 rw38 (by exact om_5fe47575 b3.2 b3.1 h22 h23 g34 g35 g36 g37 h46 h48) (by exact om_5eb52955 g34 g35 h43 h44) (by exact om_c59a7fde b3.2 b3.1) (by exact om_d9c6cc7c b3.2 b3.1 h22 h23 g34 g35 g36 g37 h46 h48) (fun k => f52 _ _ (fun q => by have z := ta9; rw [q.1, ta0] at z; exact absurd z (by decide)))), trivial⟩
        · skip
          refine tr_aload_n dX12_keeps_57 hl27 ?_
          refine tr_getR dX12_keeps_58 fl12_21 (kR15 hS30.1 ta0) d10 ?_
          refine q_bipush dX12_keeps_61 (by decide +kernel) ?_
          intro v53 h54
          refine tr_aload_n dX12_keeps_63 hl27 ?_
          refine q_getI dX12_keeps_64 fl12_387 (kR15 hS30.1 ta0) c32 ?_
          refine q_imulE (c := 15) dX12_keeps_67 (by exact om_e7c7fe43 h54) (by exact om_f575ae90 g33 b41.1) ?_
          intro v55 h56
          refine tr_iload_n dX12_keeps_68 hl28 ?_
          refine q_iaddE dX12_keeps_69 (by intro j1 j2 j3 j4; exact om_4e64853f g33 g34 g35 b41.1 h56 j1 j2) ?_
          intro v57 h58
          refine tr_aload_n dX12_keeps_70 hl27 ?_
          refine tr_getR dX12_keeps_71 fl12_17 (kR15 hS30.1 ta0) d8 ?_
          refine tr_iload_n dX12_keeps_74 hl28 ?_
          refine q_iald dX12_keeps_75 (kR77 hS30.1 ta7) (ti_in (nR77 hS30.1 ta7) (by exact om_2cfcd5a5 g34) (by exact om_f9e0e915 g34 g35 h43 h44 h56 h58)) ?_
          intro v59 c60
          refine q_iast dX12_keeps_76 (kR78 hS30.1 ta9) (ti_in (nR78 hS30.1 ta9) (by exact om_2a6d02d3 g33 g34 g35 b41.1 h43 h44 h56 h58) (by exact om_8a533f59 g33 g34 g35 b41.1 h43 h44 h56 h58)) hS30 ta9 (iok_w (r := 77) rfl rfl (by have q := ti_nat (i := v57) (by exact om_2a6d02d3 g33 g34 g35 b41.1 h43 h44 h56 h58); have q2 := ti_nat (i := v26) (by exact om_2cfcd5a5 g34); exact om_79477dc6 h56 h58 q q2) (hS30.1.iv ta7 c60)) rfl (by rfl) ?_
          intro I62 hS63 e65 f64
          have c66 : I62 a0 19 = v31 := (f64 _ _ (fun q => by have z := ta0; rw [q.1, ta9] at z; exact absurd z (by decide))).trans c32
          refine q_iincE dX12_keeps_77 hl28 (by decide) (by decide) (by intro j1 j2; exact om_4853dbec g34 g35 h43 h44 h56 h58) ?_
          intro v67 h68
          refine tr_goto 51 dX12_keeps_80 (by decide) ?_
          exact ih39 _ v67 I62 v31 hl27 rfl hS63 c66 (by exact om_1fb6f9aa g33) (by exact om_953278a5 g34 g35 h43 h44 h56 h58 h68) (by exact om_03093957 g34 g35 h43 h44 h56 h58 h68) (by exact om_fb137df3 g36) (by exact om_0111d9b6 g37) (CpI.stp (j := v57.toNatClampNeg) rw38 (by exact om_261a88d2 g33 b41.1) (by exact om_2cfcd5a5 g34) (by have q := ti_nat (i := v57) (by exact om_0a4eaee7 g33 g34 g35 b41.1 h43 h44 h56 h58 h68); exact om_99d1c62e h56 h58 h68 q) (by exact om_764ef139 h68) ((hS30.cell ta7 (wm_no (by decide +kernel))).symm.trans c60) e65 f64) (by exact om_b68903ea g34 g35 hm39 h43 h44 h56 h58 h68)
    exact lp39 _ _ v24 I0 v1 rfl rfl hS0 c2 (by exact om_de8c6534 b3.2 b3.1 h22 h23) (by exact om_d99fa9e4 h25) (by exact om_a15f8564 h25) (by exact om_0028e633) (by exact om_6bc8c05f b3.2 b3.1 h22 h23) ⟨fun k _ => rfl, fun c hc => by omega⟩ (Nat.lt_succ_self _)
  · skip
    refine q_iconst dX12_keeps_9 (by decide) ?_
    intro v69 h70
    refine tr_istore_n dX12_keeps_10 (by decide) (by decide) ?_
    have lp82 : ∀ (fu : Nat) (ls : Nat → Option Value) (v71 : Int32) (I74 : cz_I) (v76 : Int32), ls 0 = some (.ref a0) → ls 1 = some (.int v71) → St T cn K N d wik_X12_keeps wrk_X12_keeps I0 R0 I74 R0 → I74 a0 19 = v76 → v76.toInt = 12 → 0 ≤ v71.toInt → v71.toInt ≤ 165 → (ShI I0 I74 a9 v71.toInt) → (-v71.toInt + 2147483647).toNat < fu → Tr X mX12_keeps 11 ls [] cn K N I74 R0 L0 0 0 := by
      intro fu
      induction fu with
      | zero => intros; rename_i hz; exact absurd hz (Nat.not_lt_zero _)
      | succ fu ih82 =>
        intro ls v71 I74 v76 hl72 hl73 hS75 c77 g78 g79 g80 rw81 hm82
        have b84 := iv15_19 hS75.1 ta0 c77
        refine tr_iload_n dX12_keeps_11 hl73 ?_
        refine q_sipush dX12_keeps_12 (by decide +kernel) ?_
        intro v85 h86
        refine q_icmp_ge 39 dX12_keeps_15 (by decide) (fun h87 => ?_) (fun h87 => ?_)
        · skip
          refine tr_aload_n dX12_keeps_39 hl72 ?_
          refine tr_dup dX12_keeps_40 rfl ?_
          refine q_getI dX12_keeps_41 fl12_387 (kR15 hS75.1 ta0) c77 ?_
          refine q_iconst dX12_keeps_44 (by decide) ?_
          intro v88 h89
          refine q_isubE dX12_keeps_45 (by intro j1 j2 j3 j4; exact om_f3adec1f g78 h89) ?_
          intro v90 h91
          refine q_putI dX12_keeps_46 fl12_387 (kR15 hS75.1 ta0) (Or.inl rfl) hS75 ta0 (by show (0 : Int) ≤ v90.toInt ∧ v90.toInt ≤ (12 : Int); exact om_8d1ce1b0 g78 h89 h91) rfl (by decide +kernel) ?_
          intro I92 hS93 e94 f95
          refine q_iconst dX12_keeps_49 (by decide) ?_
          intro v96 h97
          refine tr_istore_n dX12_keeps_50 (by decide) (by decide) ?_
          have lp111 : ∀ (fu : Nat) (ls : Nat → Option Value) (v98 : Int32) (I101 : cz_I) (v103 : Int32), ls 0 = some (.ref a0) → ls 1 = some (.int v98) → St T cn K N d wik_X12_keeps wrk_X12_keeps I0 R0 I101 R0 → I101 a0 19 = v103 → v103.toInt ≤ 11 → 0 ≤ v98.toInt → v98.toInt ≤ 15 → (v1.toInt < 12 → v103.toInt = v1.toInt) → (v1.toInt ≥ 12 → v103.toInt = 11) → (CpI (fun k => I0 a9 (k + 15)) I0 I101 a7 a9 (15 * v103.toInt) v98.toInt) → (-v98.toInt + 2147483647).toNat < fu → Tr X mX12_keeps 51 ls [] cn K N I101 R0 L0 0 0 := by
            intro fu
            induction fu with
            | zero => intros; rename_i hz; exact absurd hz (Nat.not_lt_zero _)
            | succ fu ih111 =>
              intro ls v98 I101 v103 hl99 hl100 hS102 c104 g105 g106 g107 g108 g109 rw110 hm111
              have b113 := iv15_19 hS102.1 ta0 c104
              refine tr_iload_n dX12_keeps_51 hl100 ?_
              refine q_bipush dX12_keeps_52 (by decide +kernel) ?_
              intro v114 h115
              refine q_icmp_ge 83 dX12_keeps_54 (by decide) (fun h116 => ?_) (fun h116 => ?_)
              · skip
                refine tr_aload_n dX12_keeps_83 hl99 ?_
                refine tr_dup dX12_keeps_84 rfl ?_
                refine q_getI dX12_keeps_85 fl12_387 (kR15 hS102.1 ta0) c104 ?_
                refine q_iconst dX12_keeps_88 (by decide) ?_
                intro v117 h118
                refine q_iaddE dX12_keeps_89 (by intro j1 j2 j3 j4; exact om_10b3db6d g105 b113.1 h118) ?_
                intro v119 h120
                refine q_putI dX12_keeps_90 fl12_387 (kR15 hS102.1 ta0) (Or.inl rfl) hS102 ta0 (by show (0 : Int) ≤ v119.toInt ∧ v119.toInt ≤ (12 : Int); exact om_dccb45b7 g105 b113.1 h118 h120) rfl (by decide +kernel) ?_
                intro I121 hS122 e123 f124
                exact tr_vret hZ dX12_keeps_93 rfl (by decide) (by decide) ⟨rfl, rfl, rfl, rfl, rfl, rfl, hS122, (by (try rw [c2]); (try rw [e123]); first | done | with_reducible assumption | exact om_2c95d5e0 h22 h23), (by (try rw [c2]); (try rw [e123]); first | done | with_reducible assumption | exact om_32a0024f h22 h23 g105 g106 g107 g109 b113.1 h118 h120), (fun w p hw hp => by obtain rfl := Option.some.inj (d8.symm.trans hw); obtain rfl := Option.some.inj (d10.symm.trans hp); rw [c2]; exact KeM.of2 rw110 (by exact om_9e9ee3e2 h22 h23 g105 g106 g107 g109 b113.1 h118 h120) (by exact om_5eb52955 g106 g107 h115 h116) (by exact om_2944a011 h22 h23) (fun k => f124 _ _ (fun q => by have z := ta9; rw [q.1, ta0] at z; exact absurd z (by decide)))), trivial⟩
              · skip
                refine tr_aload_n dX12_keeps_57 hl99 ?_
                refine tr_getR dX12_keeps_58 fl12_21 (kR15 hS102.1 ta0) d10 ?_
                refine q_bipush dX12_keeps_61 (by decide +kernel) ?_
                intro v125 h126
                refine tr_aload_n dX12_keeps_63 hl99 ?_
                refine q_getI dX12_keeps_64 fl12_387 (kR15 hS102.1 ta0) c104 ?_
                refine q_imulE (c := 15) dX12_keeps_67 (by exact om_e7c7fe43 h126) (by exact om_f575ae90 g105 b113.1) ?_
                intro v127 h128
                refine tr_iload_n dX12_keeps_68 hl100 ?_
                refine q_iaddE dX12_keeps_69 (by intro j1 j2 j3 j4; exact om_bbf3a4f9 g105 g106 g107 b113.1 h115 h116 h128 j1 j2) ?_
                intro v129 h130
                refine tr_aload_n dX12_keeps_70 hl99 ?_
                refine tr_getR dX12_keeps_71 fl12_17 (kR15 hS102.1 ta0) d8 ?_
                refine tr_iload_n dX12_keeps_74 hl100 ?_
                refine q_iald dX12_keeps_75 (kR77 hS102.1 ta7) (ti_in (nR77 hS102.1 ta7) (by exact om_2cfcd5a5 g106) (by exact om_f9e0e915 g106 g107 h115 h116 h128 h130)) ?_
                intro v131 c132
                refine q_iast dX12_keeps_76 (kR78 hS102.1 ta9) (ti_in (nR78 hS102.1 ta9) (by exact om_2a6d02d3 g105 g106 g107 b113.1 h115 h116 h128 h130) (by exact om_8a533f59 g105 g106 g107 b113.1 h115 h116 h128 h130)) hS102 ta9 (iok_w (r := 77) rfl rfl (by have q := ti_nat (i := v129) (by exact om_2a6d02d3 g105 g106 g107 b113.1 h115 h116 h128 h130); have q2 := ti_nat (i := v98) (by exact om_2cfcd5a5 g106); exact om_79477dc6 h128 h130 q q2) (hS102.1.iv ta7 c132)) rfl (by rfl) ?_
                intro I134 hS135 e137 f136
                have c138 : I134 a0 19 = v103 := (f136 _ _ (fun q => by have z := ti_nat (i := v129) (by exact om_2a6d02d3 g105 g106 g107 b113.1 h115 h116 h128 h130); exact om_9d06305d h22 h23 g106 g107 g109 h115 h116 h128 h130 q.2 z)).trans c104
                refine q_iincE dX12_keeps_77 hl100 (by decide) (by decide) (by intro j1 j2; exact om_4853dbec g106 g107 h115 h116 h128 h130) ?_
                intro v139 h140
                refine tr_goto 51 dX12_keeps_80 (by decide) ?_
                exact ih111 _ v139 I134 v103 hl99 rfl hS135 c138 (by exact om_1fb6f9aa g105) (by exact om_953278a5 g106 g107 h115 h116 h128 h130 h140) (by exact om_03093957 g106 g107 h115 h116 h128 h130 h140) (by exact om_fb137df3 g108) (by exact om_0111d9b6 g109) (CpI.stp (j := v129.toNatClampNeg) rw110 (by exact om_261a88d2 g105 b113.1) (by exact om_2cfcd5a5 g106) (by have q := ti_nat (i := v129) (by exact om_0a4eaee7 g105 g106 g107 b113.1 h115 h116 h128 h130 h140); exact om_99d1c62e h128 h130 h140 q) (by exact om_764ef139 h140) ((hS102.cell ta7 (wm_no (by decide +kernel))).symm.trans c132) e137 f136) (by exact om_b68903ea g106 g107 hm111 h115 h116 h128 h130 h140)
          exact lp111 _ _ v96 I92 v90 hl72 rfl hS93 e94 (by exact om_2913d280 g78 h89 h91) (by exact om_d99fa9e4 h97) (by exact om_a15f8564 h97) (by exact om_c97baf64 h22 h23) (by exact om_81c9db53 g78 h89 h91) ⟨fun k hk => (f95 _ _ (fun q => by have z := ta9; rw [q.1, ta0] at z; exact absurd z (by decide))).trans ((rw81 k).1 (by exact om_36acd312 g78 h86 h87 h89 h91 hk)), fun c hc => by omega⟩ (Nat.lt_succ_self _)
        · skip
          refine tr_aload_n dX12_keeps_18 hl72 ?_
          refine tr_getR dX12_keeps_19 fl12_21 (kR15 hS75.1 ta0) d10 ?_
          refine tr_iload_n dX12_keeps_22 hl73 ?_
          refine tr_aload_n dX12_keeps_23 hl72 ?_
          refine tr_getR dX12_keeps_24 fl12_21 (kR15 hS75.1 ta0) d10 ?_
          refine tr_iload_n dX12_keeps_27 hl73 ?_
          refine q_bipush dX12_keeps_28 (by decide +kernel) ?_
          intro v141 h142
          refine q_iaddE dX12_keeps_30 (by intro j1 j2 j3 j4; exact om_63973031 g79 g80 h142) ?_
          intro v143 h144
          refine q_iald dX12_keeps_31 (kR78 hS75.1 ta9) (ti_in (nR78 hS75.1 ta9) (by exact om_c182d45c g79 g80 h86 h87 h142 h144) (by exact om_fda7f7f2 g79 g80 h86 h87 h142 h144)) ?_
          intro v145 c146
          refine q_iast dX12_keeps_32 (kR78 hS75.1 ta9) (ti_in (nR78 hS75.1 ta9) (by exact om_2cfcd5a5 g79) (by exact om_226d248b g79 g80 h86 h87 h142 h144)) hS75 ta9 (iok_w (r := 78) rfl rfl (by have q := ti_nat (i := v71) (by exact om_2cfcd5a5 g79); have q2 := ti_nat (i := v143) (by exact om_294078c9 g79 g80 h86 h87 h142 h144 q); exact om_5d625481 h142 h144 q q2) (hS75.1.iv ta9 c146)) rfl (by rfl) ?_
          intro I148 hS149 e151 f150
          have c152 : I148 a0 19 = v76 := (f150 _ _ (fun q => by have z := ta0; rw [q.1, ta9] at z; exact absurd z (by decide))).trans c77
          refine q_iincE dX12_keeps_33 hl73 (by decide) (by decide) (by intro j1 j2; exact om_283940ad g79 g80 h86 h87 h142 h144) ?_
          intro v153 h154
          refine tr_goto 11 dX12_keeps_36 (by decide) ?_
          exact ih82 _ v153 I148 v76 hl72 rfl hS149 c152 (by exact om_c7f35217 g78) (by exact om_469bd582 g79 g80 h86 h87 h142 h144 h154) (by exact om_edc53bf9 g79 g80 h86 h87 h142 h144 h154) (ShI.stp (j := v71.toNatClampNeg) rw81 (ti_nat (by exact om_2cfcd5a5 g79)) (by exact om_764ef139 h154) (by have q1 := ti_nat (i := v71) (by exact om_2cfcd5a5 g79); have q2 := ti_nat (i := v143) (by exact om_d0aa0c0b g79 g80 h86 h87 h142 h144 h154 q1); have z := c146; rw [show v143.toNatClampNeg = v71.toNatClampNeg + 15 by exact om_65de2f67 h142 h144 h154 q1 q2] at z; exact z) e151 f150) (by exact om_5a15c268 g79 g80 hm82 h86 h87 h142 h144 h154)
    exact lp82 _ _ v69 I0 v1 rfl rfl hS0 c2 (by exact om_a7bfb8cd h22 h23) (by exact om_d99fa9e4 h70) (by exact om_a9be948b h70) (fun k => ⟨fun q => by omega, fun _ => rfl⟩) (Nat.lt_succ_self _)
def wik_X12_granted : List Nat := [961, 962]
def wrk_X12_granted : List Nat := []
set_option maxHeartbeats 4000000 in
theorem fk_X12_granted {l : Launch} {T : Nat → Nat} {cn : Nat} {K N : Nat → Nat} {I0 : cz_I} {R0 : cz_R} {L0 : cz_L} {d : Int} (hW0 : Wf T cn K N I0 R0 d)  {a0 : Nat} (ta0 : T a0 = 15) : ConE l mX12_granted [.ref a0] cn K N I0 R0 L0 (ca_i (fun v cn' K' N' I' R' L' => cn = cn' ∧ K = K' ∧ N = N' ∧ R0 = R' ∧ L0 = L' ∧ St T cn K N d wik_X12_granted wrk_X12_granted I0 R0 I' R0 ∧ (0 ≤ v.toInt ∧ v.toInt ≤ 1) ∧ (v.toInt = 1) ∧ True)) := by
  refine ConE.of (by decide +kernel) rfl (Nat.le_of_ble_eq_true rfl) rfl (fun X hX hZ hE => ?_)
  subst hX
  have hS0 : St T cn K N d wik_X12_granted wrk_X12_granted I0 R0 I0 R0 := St.rf0 hW0
  refine tr_aload_n dX12_granted_0 rfl ?_
  refine q_iconst dX12_granted_1 (by decide) ?_
  intro v1 h2
  refine q_callVi hE (M' := mX12_good) (as := [_]) dX12_granted_2 lk12_81 inX12_good seX12_good myX12_good (by decide) ⟨by decide, by decide⟩ rfl (kR15 hS0.1 ta0) (Nat.le_of_ble_eq_true rfl) rfl rfl (by decide) (by decide) (fk_X12_good hS0.1  ta0) ?_
  rintro v8 cn' K' N' I3 R4 L5 ⟨rfl, rfl, rfl, rfl, rfl, g6, p9, p10, p11, -⟩
  have hS12 := hS0.tr g6 (by decide +kernel) (by decide +kernel)
  obtain ⟨v13, c14⟩ : ∃ v, I3 a0 1 = v := ⟨_, rfl⟩
  rw [c14] at p10
  obtain ⟨v15, c16⟩ : ∃ v, I3 a0 2 = v := ⟨_, rfl⟩
  rw [c16] at p11
  refine tr_pop dX12_granted_5 rfl ?_
  refine q_iconst dX12_granted_6 (by decide) ?_
  intro v17 h18
  exact tr_zret hZ dX12_granted_7 rfl (ti_b01 (by exact om_f9079521 h18) (by exact om_e6632817 h18)) (by decide) (by decide) ⟨v17, rfl, rfl, rfl, rfl, rfl, rfl, hS12, (by exact om_d753bc65 h18), (by first | done | with_reducible assumption | omega), trivial⟩
def wik_X12_call : List Nat := [960, 961, 962, 979, 4991, 5055]
def wrk_X12_call : List Nat := []
def Cs_X12_call (T : Nat → Nat) (I0 : cz_I) (R0 : cz_R) (a0 : Nat) (x1 : Int32) (x2 : Int32) (v : Int32) (I' : cz_I) (R' : cz_R) : Prop :=
  ((v.toInt = 0) ∧ (R0 a0 3 = none) ∧ (SmM T I0 I' a0) ∧ True) ∨
  ((∀ b1, R0 a0 3 = some b1 → (x1.toInt < 0 ∨ x1.toInt ≥ (I0 b1 5).toInt)) ∧ (v.toInt = 0) ∧ (∃ b, R0 a0 3 = some b) ∧ (SmM T I0 I' a0) ∧ True) ∨
  ((0 ≤ x1.toInt) ∧ (∀ b1, R0 a0 3 = some b1 → x1.toInt < (I0 b1 5).toInt) ∧ (∀ b1, R0 a0 16 = some b1 → (bt (I0 b1 0).toInt x1.toInt) = x2.toInt) ∧ (v.toInt = 0) ∧ (∃ b, R0 a0 3 = some b) ∧ (SmM T I0 I' a0) ∧ True) ∨
  ((((I0 a0 19).toInt < 12 → (I' a0 19).toInt = (I0 a0 19).toInt + 1)) ∧ (((I0 a0 19).toInt ≥ 12 → (I' a0 19).toInt = 12)) ∧ (0 ≤ x1.toInt) ∧ (∀ b1, R0 a0 3 = some b1 → x1.toInt < (I0 b1 5).toInt) ∧ (∀ b1, R0 a0 16 = some b1 → (bt (I0 b1 0).toInt x1.toInt) ≠ x2.toInt) ∧ (v.toInt = 1) ∧ (∀ b1, R0 a0 16 = some b1 → (I' b1 1).toInt = (I0 b1 1).toInt) ∧ (∀ b1, R0 a0 16 = some b1 → (I' b1 2).toInt = (I0 b1 2).toInt) ∧ (∃ b, R0 a0 3 = some b) ∧ (∀ w p, R0 a0 16 = some w → R0 a0 17 = some p → KeM I0 I' w p (I0 a0 19).toInt) ∧ (∀ w, R0 a0 16 = some w → I' w 0 = I0 w 0 ^^^ ((1 : Int32) <<< (x1 &&& 31))) ∧ True)
set_option maxHeartbeats 4000000 in
theorem fk_X12_call {l : Launch} {T : Nat → Nat} {cn : Nat} {K N : Nat → Nat} {I0 : cz_I} {R0 : cz_R} {L0 : cz_L} {d : Int} (hW0 : Wf T cn K N I0 R0 d)  {a0 : Nat} (ta0 : T a0 = 15) {x1 : Int32} {x2 : Int32} (hx2 : 0 ≤ x2.toInt ∧ x2.toInt ≤ 1) (pre0 : ∀ b1, R0 a0 16 = some b1 → 0 ≤ (I0 b1 0).toInt) (pre1 : ∀ b1, R0 a0 16 = some b1 → (I0 b1 0).toInt ≤ 63) : ConE l mX12_call [.ref a0, .int x1, .int x2] cn K N I0 R0 L0 (ca_i (fun v cn' K' N' I' R' L' => cn = cn' ∧ K = K' ∧ N = N' ∧ R0 = R' ∧ L0 = L' ∧ St T cn K N d wik_X12_call wrk_X12_call I0 R0 I' R0 ∧ (0 ≤ v.toInt ∧ v.toInt ≤ 1) ∧ Cs_X12_call T I0 R0 a0 x1 x2 v I' R0 ∧ True)) := by
  refine ConE.of (by decide +kernel) rfl (Nat.le_of_ble_eq_true rfl) rfl (fun X hX hZ hE => ?_)
  subst hX
  have hS0 : St T cn K N d wik_X12_call wrk_X12_call I0 R0 I0 R0 := St.rf0 hW0
  obtain ⟨a1, d2, ta1⟩ := rf15_16 hW0 ta0
  obtain ⟨v3, c4⟩ : ∃ v, I0 a1 0 = v := ⟨_, rfl⟩
  have p5 := pre0 _ d2
  rw [c4] at p5
  have p6 := pre1 _ d2
  rw [c4] at p6
  obtain ⟨v7, c8⟩ : ∃ v, I0 a0 19 = v := ⟨_, rfl⟩
  have b9 := iv15_19 hS0.1 ta0 c8
  obtain ⟨v10, c11⟩ : ∃ v, I0 a1 1 = v := ⟨_, rfl⟩
  have b12 := iv77_1 hS0.1 ta1 (by decide) c11
  obtain ⟨v13, c14⟩ : ∃ v, I0 a1 2 = v := ⟨_, rfl⟩
  have b15 := iv77_2 hS0.1 ta1 (by decide) c14
  obtain ⟨v16, c17⟩ : ∃ v, I0 a0 20 = v := ⟨_, rfl⟩
  have b18 := iv15_20 hW0 ta0 c17
  obtain ⟨a19, d20, ta19⟩ := rf15_17 hW0 ta0
  obtain ⟨a21, d22, ta21⟩ := rf15_18 hW0 ta0
  rcases rf15_3 hW0 ta0 with d24 | ⟨a23, d24, ta23⟩
  · skip
    refine tr_aload_n dX12_call_0 rfl ?_
    refine q_iconst dX12_call_1 (by decide) ?_
    intro v25 h26
    refine q_putI dX12_call_2 fl12_70 (kR15 hS0.1 ta0) (Or.inl rfl) hS0 ta0 (iokF rfl) rfl (by decide +kernel) ?_
    intro I27 hS28 e29 f30
    have c31 : I27 a1 0 = v3 := (f30 _ _ (fun q => by have z := ta1; rw [q.1, ta0] at z; exact absurd z (by decide))).trans c4
    have c32 : I27 a0 19 = v7 := (f30 _ _ (fun q => absurd q.2 (by decide))).trans c8
    have c33 : I27 a1 1 = v10 := (f30 _ _ (fun q => absurd q.2 (by decide))).trans c11
    have c34 : I27 a1 2 = v13 := (f30 _ _ (fun q => absurd q.2 (by decide))).trans c14
    refine tr_aload_n dX12_call_5 rfl ?_
    refine tr_getN dX12_call_6 fl12_385 (kR15 hS28.1 ta0) d24 ?_
    refine tr_ifnullN 27 dX12_call_9 (by decide) ?_
    refine tr_aload_n dX12_call_27 rfl ?_
    refine q_iconst dX12_call_28 (by decide) ?_
    intro v35 h36
    refine q_callVi hE (M' := mX12_denied) (as := [_]) dX12_call_29 lk12_507 inX12_denied seX12_denied myX12_denied (by decide) ⟨by decide, by decide⟩ rfl (kR15 hS28.1 ta0) (Nat.le_of_ble_eq_true rfl) rfl rfl (by decide) (by decide) (fk_X12_denied hS28.1  ta0) ?_
    rintro v42 cn' K' N' I37 R38 L39 ⟨rfl, rfl, rfl, rfl, rfl, g40, h43, p44, -⟩
    have hS45 := hS28.tr g40 (by decide +kernel) (by decide +kernel)
    have c46 : I37 a1 0 = v3 := (g40.cell ta1 (by decide +kernel)).trans c31
    have c47 : I37 a0 19 = v7 := (g40.cell ta0 (by decide +kernel)).trans c32
    have c48 : I37 a1 1 = v10 := (g40.cell ta1 (by decide +kernel)).trans c33
    have c49 : I37 a1 2 = v13 := (g40.cell ta1 (by decide +kernel)).trans c34
    have c50 : I37 a0 0 = v25 := (g40.cell ta0 (by decide +kernel)).trans e29
    exact tr_zret hZ dX12_call_32 rfl (ti_b01 (by exact om_d99fa9e4 p44) (by exact om_d3de7ec9 p44)) (by decide) (by decide) ⟨v42, rfl, rfl, rfl, rfl, rfl, rfl, hS45, (by exact om_be53a44c h43), (Or.inl ⟨(by first | done | with_reducible assumption | omega), d24, ⟨(c47).trans (c8).symm, (((hS45.cell ta0 (by decide +kernel)).trans c17)).trans (c17).symm, fun a j h => by rcases h with h | h | h; exact ((g40.cell h (wm_no (by decide +kernel))).trans (f30 _ _ (fun q => by have z := h; rw [q.1, ta0] at z; exact absurd z (by decide)))); exact ((g40.cell h (wm_no (by decide +kernel))).trans (f30 _ _ (fun q => by have z := h; rw [q.1, ta0] at z; exact absurd z (by decide)))); exact ((g40.cell h (wm_no (by decide +kernel))).trans (f30 _ _ (fun q => by have z := h; rw [q.1, ta0] at z; exact absurd z (by decide))))⟩, trivial⟩), trivial⟩
  · skip
    refine tr_aload_n dX12_call_0 rfl ?_
    refine q_iconst dX12_call_1 (by decide) ?_
    intro v51 h52
    refine q_putI dX12_call_2 fl12_70 (kR15 hS0.1 ta0) (Or.inl rfl) hS0 ta0 (iokF rfl) rfl (by decide +kernel) ?_
    intro I53 hS54 e55 f56
    have c57 : I53 a1 0 = v3 := (f56 _ _ (fun q => by have z := ta1; rw [q.1, ta0] at z; exact absurd z (by decide))).trans c4
    have c58 : I53 a0 19 = v7 := (f56 _ _ (fun q => absurd q.2 (by decide))).trans c8
    have c59 : I53 a1 1 = v10 := (f56 _ _ (fun q => absurd q.2 (by decide))).trans c11
    have c60 : I53 a1 2 = v13 := (f56 _ _ (fun q => absurd q.2 (by decide))).trans c14
    refine tr_aload_n dX12_call_5 rfl ?_
    refine tr_getR dX12_call_6 fl12_385 (kR15 hS54.1 ta0) d24 ?_
    refine tr_ifnull dX12_call_9 ?_
    refine tr_iload_n dX12_call_12 rfl ?_
    refine q_if_lt 27 dX12_call_13 (by decide) (fun h61 => ?_) (fun h61 => ?_)
    · skip
      refine tr_aload_n dX12_call_27 rfl ?_
      refine q_iconst dX12_call_28 (by decide) ?_
      intro v62 h63
      refine q_callVi hE (M' := mX12_denied) (as := [_]) dX12_call_29 lk12_507 inX12_denied seX12_denied myX12_denied (by decide) ⟨by decide, by decide⟩ rfl (kR15 hS54.1 ta0) (Nat.le_of_ble_eq_true rfl) rfl rfl (by decide) (by decide) (fk_X12_denied hS54.1  ta0) ?_
      rintro v69 cn' K' N' I64 R65 L66 ⟨rfl, rfl, rfl, rfl, rfl, g67, h70, p71, -⟩
      have hS72 := hS54.tr g67 (by decide +kernel) (by decide +kernel)
      have c73 : I64 a1 0 = v3 := (g67.cell ta1 (by decide +kernel)).trans c57
      have c74 : I64 a0 19 = v7 := (g67.cell ta0 (by decide +kernel)).trans c58
      have c75 : I64 a1 1 = v10 := (g67.cell ta1 (by decide +kernel)).trans c59
      have c76 : I64 a1 2 = v13 := (g67.cell ta1 (by decide +kernel)).trans c60
      have c77 : I64 a0 0 = v51 := (g67.cell ta0 (by decide +kernel)).trans e55
      obtain ⟨v78, c79⟩ : ∃ v, I0 a23 5 = v := ⟨_, rfl⟩
      have b80 := iv14_5 hW0 ta23 c79
      exact tr_zret hZ dX12_call_32 rfl (ti_b01 (by exact om_d99fa9e4 p71) (by exact om_d3de7ec9 p71)) (by decide) (by decide) ⟨v69, rfl, rfl, rfl, rfl, rfl, rfl, hS72, (by exact om_be53a44c h70), (Or.inr (Or.inl ⟨(fun q0 z0 => by obtain rfl := Option.some.inj ((d24).symm.trans z0); (try rw [c79]); first | done | with_reducible assumption | exact om_82eb7c5a h61), (by first | done | with_reducible assumption | omega), ⟨_, d24⟩, ⟨(c74).trans (c8).symm, (((hS72.cell ta0 (by decide +kernel)).trans c17)).trans (c17).symm, fun a j h => by rcases h with h | h | h; exact ((g67.cell h (wm_no (by decide +kernel))).trans (f56 _ _ (fun q => by have z := h; rw [q.1, ta0] at z; exact absurd z (by decide)))); exact ((g67.cell h (wm_no (by decide +kernel))).trans (f56 _ _ (fun q => by have z := h; rw [q.1, ta0] at z; exact absurd z (by decide)))); exact ((g67.cell h (wm_no (by decide +kernel))).trans (f56 _ _ (fun q => by have z := h; rw [q.1, ta0] at z; exact absurd z (by decide))))⟩, trivial⟩)), trivial⟩
    · skip
      refine tr_iload_n dX12_call_16 rfl ?_
      refine tr_aload_n dX12_call_17 rfl ?_
      refine tr_getR dX12_call_18 fl12_385 (kR15 hS54.1 ta0) d24 ?_
      obtain ⟨v81, c82⟩ : ∃ v, I0 a23 5 = v := ⟨_, rfl⟩
      have b83 := iv14_5 hW0 ta23 c82
      refine q_getI dX12_call_21 fl12_349 (kR14 hS54.1 ta23) ((hS54.cell ta23 (by decide +kernel)).trans c82) ?_
      refine q_icmp_lt 33 dX12_call_24 (by decide) (fun h84 => ?_) (fun h84 => ?_)
      · skip
        refine tr_aload_n dX12_call_33 rfl ?_
        refine tr_getR dX12_call_34 fl12_17 (kR15 hS54.1 ta0) d2 ?_
        refine q_iconst dX12_call_37 (by decide) ?_
        intro v85 h86
        refine q_iald dX12_call_38 (kR77 hS54.1 ta1) (ti_in (nR77 hS54.1 ta1) (by exact om_d99fa9e4 h86) (by exact om_152819bd h86)) ?_
        intro v87 c88
        rw [show v85.toNatClampNeg = 0 from ti_cl (by exact om_71345643 h86)] at c88
        obtain rfl : v3 = v87 := (c57).symm.trans c88
        refine tr_iload_n dX12_call_39 rfl ?_
        refine q_callSi hE (M' := mX12_has) (as := [_, _]) dX12_call_40 lk12_329 inX12_has myX12_has ⟨by decide, by decide⟩ rfl (Nat.le_of_ble_eq_true rfl) rfl rfl (by decide) (by decide) (f_X12_hasW   (by exact om_a8c3f4c1 p5 p6) (by exact om_bdd84aa3 h61 b83.2 b83.1 h84)) ?_
        rintro v94 cn' K' N' I89 R90 L91 ⟨rfl, rfl, rfl, rfl, rfl, rfl, h95, p96, -⟩
        have btv94 := bt_01 v3.toInt x1.toInt
        refine tr_iload_n dX12_call_43 rfl ?_
        refine q_icmp_ne 53 dX12_call_44 (by decide) (fun h97 => ?_) (fun h97 => ?_)
        · skip
          refine tr_aload_n dX12_call_53 rfl ?_
          refine q_callVv hE (M' := mX12_keeps) (as := []) dX12_call_54 lk12_510 inX12_keeps seX12_keeps myX12_keeps (by decide) ⟨by decide, by decide⟩ rfl (kR15 hS54.1 ta0) (Nat.le_of_ble_eq_true rfl) rfl rfl (by decide) (by decide) (fk_X12_keeps hS54.1  ta0) ?_
          rintro cn' K' N' I98 R99 L100 ⟨rfl, rfl, rfl, rfl, rfl, g101, p104, p105, rp106, -⟩
          have hS107 := hS54.tr g101 (by decide +kernel) (by decide +kernel)
          have c108 : I98 a1 0 = v3 := (g101.cell ta1 (by decide +kernel)).trans c57
          have c109 : I98 a1 1 = v10 := (g101.cell ta1 (by decide +kernel)).trans c59
          have c110 : I98 a1 2 = v13 := (g101.cell ta1 (by decide +kernel)).trans c60
          have c111 : I98 a0 0 = v51 := (g101.cell ta0 (by decide +kernel)).trans e55
          obtain ⟨v112, c113⟩ : ∃ v, I98 a0 19 = v := ⟨_, rfl⟩
          have b114 := iv15_19 hS107.1 ta0 c113
          rw [c58] at p104
          rw [c113] at p104
          rw [c58] at p105
          rw [c113] at p105
          refine tr_aload_n dX12_call_57 rfl ?_
          refine tr_getR dX12_call_58 fl12_17 (kR15 hS107.1 ta0) d2 ?_
          refine q_iconst dX12_call_61 (by decide) ?_
          intro v115 h116
          refine tr_dup2 dX12_call_62 rfl rfl ?_
          refine q_iald dX12_call_63 (kR77 hS107.1 ta1) (ti_in (nR77 hS107.1 ta1) (by exact om_d99fa9e4 h116) (by exact om_152819bd h116)) ?_
          intro v117 c118
          rw [show v115.toNatClampNeg = 0 from ti_cl (by exact om_71345643 h116)] at c118
          obtain rfl : v3 = v117 := (c108).symm.trans c118
          refine q_iconst dX12_call_64 (by decide) ?_
          intro v119 h120
          refine tr_iload_n dX12_call_65 rfl ?_
          refine tr_ishl dX12_call_66 ?_
          obtain ⟨v121, lx122⟩ : ∃ z, z = v119 <<< (x1 &&& 31) := ⟨_, rfl⟩
          rw [← lx122]
          refine tr_ixor dX12_call_67 ?_
          obtain ⟨v123, lx124⟩ : ∃ z, z = v3 ^^^ v121 := ⟨_, rfl⟩
          rw [← lx124]
          refine q_iast dX12_call_68 (kR77 hS107.1 ta1) (ti_in (nR77 hS107.1 ta1) (by exact om_d99fa9e4 h116) (by exact om_152819bd h116)) hS107 ta1 (iok_wF rfl (by have q := ti_nat (i := v115) (by exact om_d99fa9e4 h116); exact om_89c61a99 h116 q)) rfl (by rfl) ?_
          intro I125 hS126 e128 f127
          have c129 : I125 a1 1 = v10 := (f127 _ _ (fun q => by have z := ti_nat (i := v115) (by exact om_d99fa9e4 h116); exact om_5ee2b55b h116 q.2 z)).trans c109
          have c130 : I125 a1 2 = v13 := (f127 _ _ (fun q => by have z := ti_nat (i := v115) (by exact om_d99fa9e4 h116); exact om_73da61fe h116 q.2 z)).trans c110
          have c131 : I125 a0 0 = v51 := (f127 _ _ (fun q => by have z := ta0; rw [q.1, ta1] at z; exact absurd z (by decide))).trans c111
          have c132 : I125 a0 19 = v112 := (f127 _ _ (fun q => by have z := ti_nat (i := v115) (by exact om_d99fa9e4 h116); exact om_3a0f10c1 h116 q.2 z)).trans c113
          rw [show v115.toNatClampNeg = 0 from ti_cl (by exact om_71345643 h116)] at e128
          refine tr_aload_n dX12_call_69 rfl ?_
          refine q_callVi hE (M' := mX12_granted) (as := []) dX12_call_70 lk12_513 inX12_granted seX12_granted myX12_granted (by decide) ⟨by decide, by decide⟩ rfl (kR15 hS126.1 ta0) (Nat.le_of_ble_eq_true rfl) rfl rfl (by decide) (by decide) (fk_X12_granted hS126.1  ta0) ?_
          rintro v138 cn' K' N' I133 R134 L135 ⟨rfl, rfl, rfl, rfl, rfl, g136, h139, p140, -⟩
          have hS141 := hS126.tr g136 (by decide +kernel) (by decide +kernel)
          have c142 : I133 a1 1 = v10 := (g136.cell ta1 (by decide +kernel)).trans c129
          have c143 : I133 a1 2 = v13 := (g136.cell ta1 (by decide +kernel)).trans c130
          have c144 : I133 a0 0 = v51 := (g136.cell ta0 (by decide +kernel)).trans c131
          have c145 : I133 a0 19 = v112 := (g136.cell ta0 (by decide +kernel)).trans c132
          have c146 : I133 a1 0 = v123 := (g136.cell ta1 (by decide +kernel)).trans e128
          exact tr_zret hZ dX12_call_73 rfl (ti_b01 (by exact om_f9079521 p140) (by exact om_e6632817 p140)) (by decide) (by decide) ⟨v138, rfl, rfl, rfl, rfl, rfl, rfl, hS141, (by exact om_be53a44c h139), (Or.inr (Or.inr (Or.inr (⟨(by (try rw [c8]); (try rw [c145]); first | done | with_reducible assumption | omega), (by (try rw [c8]); (try rw [c145]); first | done | with_reducible assumption | omega), (by first | done | with_reducible assumption | omega), (fun q0 z0 => by obtain rfl := Option.some.inj ((d24).symm.trans z0); (try rw [c82]); first | done | with_reducible assumption | omega), (fun q0 z0 => by obtain rfl := Option.some.inj ((d2).symm.trans z0); (try rw [c4]); first | done | with_reducible assumption | exact om_3c6ea424 b9.2 b9.1 p96 h97 p105 p104), (by first | done | with_reducible assumption | omega), (fun q0 z0 => by obtain rfl := Option.some.inj ((d2).symm.trans z0); (try rw [c142]); (try rw [c11]); first | done | with_reducible assumption | omega), (fun q0 z0 => by obtain rfl := Option.some.inj ((d2).symm.trans z0); (try rw [c143]); (try rw [c14]); first | done | with_reducible assumption | omega), ⟨_, d24⟩, (fun w p hw hp => by obtain rfl := Option.some.inj (d2.symm.trans hw); obtain rfl := Option.some.inj (d20.symm.trans hp); have z := rp106 _ _ d2 d20; rw [c58] at z; rw [c8]; exact KeM.kp z (fun k => (f56 _ _ (fun q => by have z := ta19; rw [q.1, ta0] at z; exact absurd z (by decide)))) (fun k => (f56 _ _ (fun q => by have z := ta1; rw [q.1, ta0] at z; exact absurd z (by decide)))) (fun k => ((g136.cell ta19 (wm_no (by decide +kernel))).trans (f127 _ _ (fun q => by have z := ta19; rw [q.1, ta1] at z; exact absurd z (by decide)))))), (fun w hw => by obtain rfl := Option.some.inj (d2.symm.trans hw); rw [c146, lx124, lx122, show v119 = (1 : Int32) from Int32.toInt_inj.mp (by rw [h120]; rfl), c4]), trivial⟩)))), trivial⟩
        · skip
          refine tr_aload_n dX12_call_47 rfl ?_
          refine q_iconst dX12_call_48 (by decide) ?_
          intro v147 h148
          refine q_callVi hE (M' := mX12_denied) (as := [_]) dX12_call_49 lk12_507 inX12_denied seX12_denied myX12_denied (by decide) ⟨by decide, by decide⟩ rfl (kR15 hS54.1 ta0) (Nat.le_of_ble_eq_true rfl) rfl rfl (by decide) (by decide) (fk_X12_denied hS54.1  ta0) ?_
          rintro v154 cn' K' N' I149 R150 L151 ⟨rfl, rfl, rfl, rfl, rfl, g152, h155, p156, -⟩
          have hS157 := hS54.tr g152 (by decide +kernel) (by decide +kernel)
          have c158 : I149 a1 0 = v3 := (g152.cell ta1 (by decide +kernel)).trans c57
          have c159 : I149 a0 19 = v7 := (g152.cell ta0 (by decide +kernel)).trans c58
          have c160 : I149 a1 1 = v10 := (g152.cell ta1 (by decide +kernel)).trans c59
          have c161 : I149 a1 2 = v13 := (g152.cell ta1 (by decide +kernel)).trans c60
          have c162 : I149 a0 0 = v51 := (g152.cell ta0 (by decide +kernel)).trans e55
          exact tr_zret hZ dX12_call_52 rfl (ti_b01 (by exact om_d99fa9e4 p156) (by exact om_d3de7ec9 p156)) (by decide) (by decide) ⟨v154, rfl, rfl, rfl, rfl, rfl, rfl, hS157, (by exact om_be53a44c h155), (by first | exact Or.inr (Or.inl ⟨(fun q0 z0 => by obtain rfl := Option.some.inj ((d24).symm.trans z0); (try rw [c82]); first | done | with_reducible assumption | fail), (by first | done | with_reducible assumption | omega), ⟨_, d24⟩, ⟨(c159).trans (c8).symm, (((hS157.cell ta0 (by decide +kernel)).trans c17)).trans (c17).symm, fun a j h => by rcases h with h | h | h; exact ((g152.cell h (wm_no (by decide +kernel))).trans (f56 _ _ (fun q => by have z := h; rw [q.1, ta0] at z; exact absurd z (by decide)))); exact ((g152.cell h (wm_no (by decide +kernel))).trans (f56 _ _ (fun q => by have z := h; rw [q.1, ta0] at z; exact absurd z (by decide)))); exact ((g152.cell h (wm_no (by decide +kernel))).trans (f56 _ _ (fun q => by have z := h; rw [q.1, ta0] at z; exact absurd z (by decide))))⟩, trivial⟩) | exact Or.inr (Or.inr (Or.inl ⟨(by first | done | with_reducible assumption | omega), (fun q0 z0 => by obtain rfl := Option.some.inj ((d24).symm.trans z0); (try rw [c82]); first | done | with_reducible assumption | omega), (fun q0 z0 => by obtain rfl := Option.some.inj ((d2).symm.trans z0); (try rw [c4]); first | done | with_reducible assumption | exact om_444e8b26 p96 h97), (by first | done | with_reducible assumption | omega), ⟨_, d24⟩, ⟨(c159).trans (c8).symm, (((hS157.cell ta0 (by decide +kernel)).trans c17)).trans (c17).symm, fun a j h => by rcases h with h | h | h; exact ((g152.cell h (wm_no (by decide +kernel))).trans (f56 _ _ (fun q => by have z := h; rw [q.1, ta0] at z; exact absurd z (by decide)))); exact ((g152.cell h (wm_no (by decide +kernel))).trans (f56 _ _ (fun q => by have z := h; rw [q.1, ta0] at z; exact absurd z (by decide)))); exact ((g152.cell h (wm_no (by decide +kernel))).trans (f56 _ _ (fun q => by have z := h; rw [q.1, ta0] at z; exact absurd z (by decide))))⟩, trivial⟩))), trivial⟩
      · skip
        refine tr_aload_n dX12_call_27 rfl ?_
        refine q_iconst dX12_call_28 (by decide) ?_
        intro v163 h164
        refine q_callVi hE (M' := mX12_denied) (as := [_]) dX12_call_29 lk12_507 inX12_denied seX12_denied myX12_denied (by decide) ⟨by decide, by decide⟩ rfl (kR15 hS54.1 ta0) (Nat.le_of_ble_eq_true rfl) rfl rfl (by decide) (by decide) (fk_X12_denied hS54.1  ta0) ?_
        rintro v170 cn' K' N' I165 R166 L167 ⟨rfl, rfl, rfl, rfl, rfl, g168, h171, p172, -⟩
        have hS173 := hS54.tr g168 (by decide +kernel) (by decide +kernel)
        have c174 : I165 a1 0 = v3 := (g168.cell ta1 (by decide +kernel)).trans c57
        have c175 : I165 a0 19 = v7 := (g168.cell ta0 (by decide +kernel)).trans c58
        have c176 : I165 a1 1 = v10 := (g168.cell ta1 (by decide +kernel)).trans c59
        have c177 : I165 a1 2 = v13 := (g168.cell ta1 (by decide +kernel)).trans c60
        have c178 : I165 a0 0 = v51 := (g168.cell ta0 (by decide +kernel)).trans e55
        exact tr_zret hZ dX12_call_32 rfl (ti_b01 (by exact om_d99fa9e4 p172) (by exact om_d3de7ec9 p172)) (by decide) (by decide) ⟨v170, rfl, rfl, rfl, rfl, rfl, rfl, hS173, (by exact om_be53a44c h171), (by first | exact Or.inr (Or.inl ⟨(fun q0 z0 => by obtain rfl := Option.some.inj ((d24).symm.trans z0); (try rw [c82]); first | done | with_reducible assumption | exact om_0273c8de h84), (by first | done | with_reducible assumption | omega), ⟨_, d24⟩, ⟨(c175).trans (c8).symm, (((hS173.cell ta0 (by decide +kernel)).trans c17)).trans (c17).symm, fun a j h => by rcases h with h | h | h; exact ((g168.cell h (wm_no (by decide +kernel))).trans (f56 _ _ (fun q => by have z := h; rw [q.1, ta0] at z; exact absurd z (by decide)))); exact ((g168.cell h (wm_no (by decide +kernel))).trans (f56 _ _ (fun q => by have z := h; rw [q.1, ta0] at z; exact absurd z (by decide)))); exact ((g168.cell h (wm_no (by decide +kernel))).trans (f56 _ _ (fun q => by have z := h; rw [q.1, ta0] at z; exact absurd z (by decide))))⟩, trivial⟩) | exact Or.inr (Or.inr (Or.inl ⟨(by first | done | with_reducible assumption | omega), (fun q0 z0 => by obtain rfl := Option.some.inj ((d24).symm.trans z0); (try rw [c82]); first | done | with_reducible assumption | omega), (fun q0 z0 => by obtain rfl := Option.some.inj ((d2).symm.trans z0); (try rw [c4]); first | done | with_reducible assumption | omega), (by first | done | with_reducible assumption | omega), ⟨_, d24⟩, ⟨(c175).trans (c8).symm, (((hS173.cell ta0 (by decide +kernel)).trans c17)).trans (c17).symm, fun a j h => by rcases h with h | h | h; exact ((g168.cell h (wm_no (by decide +kernel))).trans (f56 _ _ (fun q => by have z := h; rw [q.1, ta0] at z; exact absurd z (by decide)))); exact ((g168.cell h (wm_no (by decide +kernel))).trans (f56 _ _ (fun q => by have z := h; rw [q.1, ta0] at z; exact absurd z (by decide)))); exact ((g168.cell h (wm_no (by decide +kernel))).trans (f56 _ _ (fun q => by have z := h; rw [q.1, ta0] at z; exact absurd z (by decide))))⟩, trivial⟩))), trivial⟩
def wik_X12_calls : List Nat := [960, 961, 962]
def wrk_X12_calls : List Nat := []
def Cs_X12_calls (T : Nat → Nat) (I0 : cz_I) (R0 : cz_R) (a0 : Nat) (v : Int32) (I' : cz_I) (R' : cz_R) : Prop :=
  ((v.toInt = -1) ∧ (R0 a0 3 = none) ∧ (SmM T I0 I' a0) ∧ True) ∨
  ((∀ b1, R0 a0 16 = some b1 → v.toInt = (I0 b1 0).toInt) ∧ (∃ b, R0 a0 3 = some b) ∧ (SmM T I0 I' a0) ∧ True)
set_option maxHeartbeats 4000000 in
theorem fk_X12_calls {l : Launch} {T : Nat → Nat} {cn : Nat} {K N : Nat → Nat} {I0 : cz_I} {R0 : cz_R} {L0 : cz_L} {d : Int} (hW0 : Wf T cn K N I0 R0 d)  {a0 : Nat} (ta0 : T a0 = 15) : ConE l mX12_calls [.ref a0] cn K N I0 R0 L0 (ca_i (fun v cn' K' N' I' R' L' => cn = cn' ∧ K = K' ∧ N = N' ∧ R0 = R' ∧ L0 = L' ∧ St T cn K N d wik_X12_calls wrk_X12_calls I0 R0 I' R0 ∧ Cs_X12_calls T I0 R0 a0 v I' R0 ∧ True)) := by
  refine ConE.of (by decide +kernel) rfl (Nat.le_of_ble_eq_true rfl) rfl (fun X hX hZ hE => ?_)
  subst hX
  have hS0 : St T cn K N d wik_X12_calls wrk_X12_calls I0 R0 I0 R0 := St.rf0 hW0
  obtain ⟨a1, d2, ta1⟩ := rf15_16 hW0 ta0
  obtain ⟨v3, c4⟩ : ∃ v, I0 a1 0 = v := ⟨_, rfl⟩
  obtain ⟨v5, c6⟩ : ∃ v, I0 a0 19 = v := ⟨_, rfl⟩
  have b7 := iv15_19 hW0 ta0 c6
  obtain ⟨v8, c9⟩ : ∃ v, I0 a0 20 = v := ⟨_, rfl⟩
  have b10 := iv15_20 hW0 ta0 c9
  obtain ⟨a11, d12, ta11⟩ := rf15_17 hW0 ta0
  obtain ⟨a13, d14, ta13⟩ := rf15_18 hW0 ta0
  obtain ⟨v15, c16⟩ : ∃ v, I0 a1 1 = v := ⟨_, rfl⟩
  have b17 := iv77_1 hW0 ta1 (by decide) c16
  obtain ⟨v18, c19⟩ : ∃ v, I0 a1 2 = v := ⟨_, rfl⟩
  have b20 := iv77_2 hW0 ta1 (by decide) c19
  rcases rf15_3 hW0 ta0 with d22 | ⟨a21, d22, ta21⟩
  · skip
    refine tr_aload_n dX12_calls_0 rfl ?_
    refine q_iconst dX12_calls_1 (by decide) ?_
    intro v23 h24
    refine q_putI dX12_calls_2 fl12_70 (kR15 hS0.1 ta0) (Or.inl rfl) hS0 ta0 (iokF rfl) rfl (by decide +kernel) ?_
    intro I25 hS26 e27 f28
    refine tr_aload_n dX12_calls_5 rfl ?_
    refine tr_getN dX12_calls_6 fl12_385 (kR15 hS26.1 ta0) d22 ?_
    refine tr_ifnonnullN dX12_calls_9 ?_
    refine tr_aload_n dX12_calls_12 rfl ?_
    refine q_iconst dX12_calls_13 (by decide) ?_
    intro v29 h30
    refine q_callVi hE (M' := mX12_refused) (as := [_]) dX12_calls_14 lk12_76 inX12_refused seX12_refused myX12_refused (by decide) ⟨by decide, by decide⟩ rfl (kR15 hS26.1 ta0) (Nat.le_of_ble_eq_true rfl) rfl rfl (by decide) (by decide) (fk_X12_refused hS26.1  ta0) ?_
    rintro v36 cn' K' N' I31 R32 L33 ⟨rfl, rfl, rfl, rfl, rfl, g34, p37, p38, p39, -⟩
    have hS40 := hS26.tr g34 (by decide +kernel) (by decide +kernel)
    have c41 : I31 a0 0 = v23 := (g34.cell ta0 (by decide +kernel)).trans e27
    obtain ⟨v42, c43⟩ : ∃ v, I31 a0 1 = v := ⟨_, rfl⟩
    rw [c43] at p38
    obtain ⟨v44, c45⟩ : ∃ v, I31 a0 2 = v := ⟨_, rfl⟩
    rw [c45] at p39
    refine tr_goto 30 dX12_calls_17 (by decide) ?_
    exact tr_iret hZ dX12_calls_30 rfl (by decide) (by decide) ⟨v36, rfl, rfl, rfl, rfl, rfl, rfl, hS40, (Or.inl ⟨(by first | done | with_reducible assumption | omega), d22, ⟨(((hS40.cell ta0 (by decide +kernel)).trans c6)).trans (c6).symm, (((hS40.cell ta0 (by decide +kernel)).trans c9)).trans (c9).symm, fun a j h => by rcases h with h | h | h; exact ((g34.cell h (wm_no (by decide +kernel))).trans (f28 _ _ (fun q => by have z := h; rw [q.1, ta0] at z; exact absurd z (by decide)))); exact ((g34.cell h (wm_no (by decide +kernel))).trans (f28 _ _ (fun q => by have z := h; rw [q.1, ta0] at z; exact absurd z (by decide)))); exact ((g34.cell h (wm_no (by decide +kernel))).trans (f28 _ _ (fun q => by have z := h; rw [q.1, ta0] at z; exact absurd z (by decide))))⟩, trivial⟩), trivial⟩
  · skip
    refine tr_aload_n dX12_calls_0 rfl ?_
    refine q_iconst dX12_calls_1 (by decide) ?_
    intro v46 h47
    refine q_putI dX12_calls_2 fl12_70 (kR15 hS0.1 ta0) (Or.inl rfl) hS0 ta0 (iokF rfl) rfl (by decide +kernel) ?_
    intro I48 hS49 e50 f51
    refine tr_aload_n dX12_calls_5 rfl ?_
    refine tr_getR dX12_calls_6 fl12_385 (kR15 hS49.1 ta0) d22 ?_
    refine tr_ifnonnull 20 dX12_calls_9 (by decide) ?_
    refine tr_aload_n dX12_calls_20 rfl ?_
    refine tr_aload_n dX12_calls_21 rfl ?_
    refine tr_getR dX12_calls_22 fl12_17 (kR15 hS49.1 ta0) d2 ?_
    refine q_iconst dX12_calls_25 (by decide) ?_
    intro v52 h53
    refine q_iald dX12_calls_26 (kR77 hS49.1 ta1) (ti_in (nR77 hS49.1 ta1) (by exact om_d99fa9e4 h53) (by exact om_152819bd h53)) ?_
    intro v54 c55
    rw [show v52.toNatClampNeg = 0 from ti_cl (by exact om_71345643 h53)] at c55
    obtain rfl : v3 = v54 := (((hS49.cell ta1 (by decide +kernel)).trans c4)).symm.trans c55
    refine q_callVi hE (M' := mX12_good) (as := [_]) dX12_calls_27 lk12_81 inX12_good seX12_good myX12_good (by decide) ⟨by decide, by decide⟩ rfl (kR15 hS49.1 ta0) (Nat.le_of_ble_eq_true rfl) rfl rfl (by decide) (by decide) (fk_X12_good hS49.1  ta0) ?_
    rintro v61 cn' K' N' I56 R57 L58 ⟨rfl, rfl, rfl, rfl, rfl, g59, p62, p63, p64, -⟩
    have hS65 := hS49.tr g59 (by decide +kernel) (by decide +kernel)
    have c66 : I56 a0 0 = v46 := (g59.cell ta0 (by decide +kernel)).trans e50
    obtain ⟨v67, c68⟩ : ∃ v, I56 a0 1 = v := ⟨_, rfl⟩
    rw [c68] at p63
    obtain ⟨v69, c70⟩ : ∃ v, I56 a0 2 = v := ⟨_, rfl⟩
    rw [c70] at p64
    exact tr_iret hZ dX12_calls_30 rfl (by decide) (by decide) ⟨v61, rfl, rfl, rfl, rfl, rfl, rfl, hS65, (Or.inr (⟨(fun q0 z0 => by obtain rfl := Option.some.inj ((d2).symm.trans z0); (try rw [c4]); first | done | with_reducible assumption | omega), ⟨_, d22⟩, ⟨(((hS65.cell ta0 (by decide +kernel)).trans c6)).trans (c6).symm, (((hS65.cell ta0 (by decide +kernel)).trans c9)).trans (c9).symm, fun a j h => by rcases h with h | h | h; exact ((g59.cell h (wm_no (by decide +kernel))).trans (f51 _ _ (fun q => by have z := h; rw [q.1, ta0] at z; exact absurd z (by decide)))); exact ((g59.cell h (wm_no (by decide +kernel))).trans (f51 _ _ (fun q => by have z := h; rw [q.1, ta0] at z; exact absurd z (by decide)))); exact ((g59.cell h (wm_no (by decide +kernel))).trans (f51 _ _ (fun q => by have z := h; rw [q.1, ta0] at z; exact absurd z (by decide))))⟩, trivial⟩)), trivial⟩
set_option maxHeartbeats 4000000 in
theorem fk_X12_isMinute {l : Launch} {T : Nat → Nat} {cn : Nat} {K N : Nat → Nat} {I0 : cz_I} {R0 : cz_R} {L0 : cz_L} {d : Int} (hW0 : Wf T cn K N I0 R0 d)  {a0 : Nat} (ta0 : T a0 = 15) {x1 : Int32} (nn3 : ∃ b, R0 a0 3 = some b) : ConE l mX12_isMinute [.ref a0, .int x1] cn K N I0 R0 L0 (ca_i (fun v cn' K' N' I' R' L' => cn = cn' ∧ K = K' ∧ N = N' ∧ I0 = I' ∧ R0 = R' ∧ L0 = L' ∧ (0 ≤ v.toInt ∧ v.toInt ≤ 1) ∧ (∀ b1, R0 a0 3 = some b1 → (v.toInt = 1 → (0 ≤ x1.toInt ∧ x1.toInt < (I0 b1 0).toInt))) ∧ (∀ b1, R0 a0 3 = some b1 → (v.toInt = 0 → (x1.toInt < 0 ∨ x1.toInt ≥ (I0 b1 0).toInt))) ∧ True)) := by
  refine ConE.of (by decide +kernel) rfl (Nat.le_of_ble_eq_true rfl) rfl (fun X hX hZ hE => ?_)
  subst hX
  obtain ⟨a1, d2⟩ := nn3
  have ta1 : T a1 = 14 := hW0.rsN ta0 rfl d2
  obtain ⟨v3, c4⟩ : ∃ v, I0 a1 0 = v := ⟨_, rfl⟩
  have b5 := hW0.2.2.2.2.2.1 a0 ta0 _ d2
  rw [c4] at b5
  have b6 := iv14_0 hW0 ta1 c4
  refine tr_iload_n dX12_isMinute_0 rfl ?_
  refine q_iconst dX12_isMinute_1 (by decide) ?_
  intro v7 h8
  refine tr_aload_n dX12_isMinute_2 rfl ?_
  refine tr_getR dX12_isMinute_3 fl12_385 (kR15 hW0 ta0) d2 ?_
  refine q_getI dX12_isMinute_6 fl12_192 (kR14 hW0 ta1) c4 ?_
  refine q_iconst dX12_isMinute_9 (by decide) ?_
  intro v9 h10
  refine q_isubE dX12_isMinute_10 (by intro j1 j2 j3 j4; exact om_06ec423d b5 b6.2 h10) ?_
  intro v11 h12
  refine q_callSi hE (M' := mX12_in) (as := [_, _, _]) dX12_isMinute_11 lk12_149 inX12_in myX12_in ⟨by decide, by decide⟩ rfl (Nat.le_of_ble_eq_true rfl) rfl rfl (by decide) (by decide) (fk_X12_in hW0  ) ?_
  rintro v18 cn' K' N' I13 R14 L15 ⟨rfl, rfl, rfl, rfl, rfl, rfl, h19, dj20, -⟩
  rcases dj20 with ⟨p21, p22, p23, -⟩ | ⟨p24, p25, -⟩
  · skip
    exact tr_zret hZ dX12_isMinute_14 rfl (ti_b01 (by exact om_f9079521 p21) (by exact om_e6632817 p21)) (by decide) (by decide) ⟨v18, rfl, rfl, rfl, rfl, rfl, rfl, rfl, (by exact om_be53a44c h19), (fun q0 z0 => by obtain rfl := Option.some.inj ((d2).symm.trans z0); (try rw [c4]); first | done | with_reducible assumption | exact om_1a02ba6f h8 h10 h12 p22 p23), (fun q0 z0 => by obtain rfl := Option.some.inj ((d2).symm.trans z0); (try rw [c4]); first | done | with_reducible assumption | exact om_f30b551a p21), trivial⟩
  · skip
    exact tr_zret hZ dX12_isMinute_14 rfl (ti_b01 (by exact om_d99fa9e4 p24) (by exact om_d3de7ec9 p24)) (by decide) (by decide) ⟨v18, rfl, rfl, rfl, rfl, rfl, rfl, rfl, (by exact om_be53a44c h19), (fun q0 z0 => by obtain rfl := Option.some.inj ((d2).symm.trans z0); (try rw [c4]); first | done | with_reducible assumption | exact om_67774191 p24), (fun q0 z0 => by obtain rfl := Option.some.inj ((d2).symm.trans z0); (try rw [c4]); first | done | with_reducible assumption | exact om_a5e34138 h8 h10 h12 p25), trivial⟩
def wik_X12_comes : List Nat := [4991]
def wrk_X12_comes : List Nat := []
set_option maxHeartbeats 4000000 in
theorem fk_X12_comes {l : Launch} {T : Nat → Nat} {cn : Nat} {K N : Nat → Nat} {I0 : cz_I} {R0 : cz_R} {L0 : cz_L} {d : Int} (hW0 : Wf T cn K N I0 R0 d)  {a0 : Nat} (ta0 : T a0 = 15) {x1 : Int32} (hx1 : 0 ≤ x1.toInt ∧ x1.toInt ≤ 240) {x2 : Int32} (hx2 : 0 ≤ x2.toInt ∧ x2.toInt ≤ 240) (pre0 : ∀ b1, R0 a0 16 = some b1 → (I0 b1 1).toInt ≤ 5) : ConE l mX12_comes [.ref a0, .int x1, .int x2] cn K N I0 R0 L0 (ca_v (fun cn' K' N' I' R' L' => cn = cn' ∧ K = K' ∧ N = N' ∧ R0 = R' ∧ L0 = L' ∧ St T cn K N d wik_X12_comes wrk_X12_comes I0 R0 I' R0 ∧ (∀ b1, R0 a0 16 = some b1 → (I' b1 1).toInt = (I0 b1 1).toInt + 1) ∧ (∀ b1, R0 a0 16 = some b1 → (I' b1 0).toInt = (I0 b1 0).toInt) ∧ (∀ b1, R0 a0 16 = some b1 → (I' b1 2).toInt = (I0 b1 2).toInt) ∧ True)) := by
  refine ConE.of (by decide +kernel) rfl (Nat.le_of_ble_eq_true rfl) rfl (fun X hX hZ hE => ?_)
  subst hX
  have hS0 : St T cn K N d wik_X12_comes wrk_X12_comes I0 R0 I0 R0 := St.rf0 hW0
  obtain ⟨a1, d2, ta1⟩ := rf15_16 hW0 ta0
  obtain ⟨v3, c4⟩ : ∃ v, I0 a1 1 = v := ⟨_, rfl⟩
  have b5 := iv77_1 hS0.1 ta1 (by decide) c4
  have p6 := pre0 _ d2
  rw [c4] at p6
  obtain ⟨v7, c8⟩ : ∃ v, I0 a1 0 = v := ⟨_, rfl⟩
  obtain ⟨v9, c10⟩ : ∃ v, I0 a1 2 = v := ⟨_, rfl⟩
  have b11 := iv77_2 hS0.1 ta1 (by decide) c10
  obtain ⟨v12, c13⟩ : ∃ v, I0 a0 19 = v := ⟨_, rfl⟩
  have b14 := iv15_19 hW0 ta0 c13
  obtain ⟨v15, c16⟩ : ∃ v, I0 a0 20 = v := ⟨_, rfl⟩
  have b17 := iv15_20 hW0 ta0 c16
  obtain ⟨a18, d19, ta18⟩ := rf15_17 hW0 ta0
  obtain ⟨a20, d21, ta20⟩ := rf15_18 hW0 ta0
  refine tr_aload_n dX12_comes_0 rfl ?_
  refine tr_getR dX12_comes_1 fl12_17 (kR15 hS0.1 ta0) d2 ?_
  refine q_iconst dX12_comes_4 (by decide) ?_
  intro v22 h23
  refine tr_aload_n dX12_comes_5 rfl ?_
  refine tr_getR dX12_comes_6 fl12_17 (kR15 hS0.1 ta0) d2 ?_
  refine q_iconst dX12_comes_9 (by decide) ?_
  intro v24 h25
  refine q_iald dX12_comes_10 (kR77 hS0.1 ta1) (ti_in (nR77 hS0.1 ta1) (by exact om_f9079521 h25) (by exact om_73248752 h25)) ?_
  intro v26 c27
  rw [show v24.toNatClampNeg = 1 from ti_cl (by exact om_21c44602 h25)] at c27
  obtain rfl : v3 = v26 := (c4).symm.trans c27
  refine q_iaddE dX12_comes_11 (by intro j1 j2 j3 j4; exact om_80ac3ec7 b5.2 b5.1 p6 h23) ?_
  intro v28 h29
  refine tr_iload_n dX12_comes_12 rfl ?_
  refine q_iast dX12_comes_13 (kR77 hS0.1 ta1) (ti_in (nR77 hS0.1 ta1) (by exact om_0c7fd521 b5.2 b5.1 p6 h23 h29) (by exact om_fc60f7bc b5.2 b5.1 p6 h23 h29)) hS0 ta1 (iok_w3 rfl (by have q := ti_nat (i := v28) (by exact om_0c7fd521 b5.2 b5.1 p6 h23 h29); exact om_770f893d b5.2 b5.1 p6 h23 h29 q) (by exact om_d956ef70 hx1)) rfl (by rfl) ?_
  intro I30 hS31 e33 f32
  have c34 : I30 a1 1 = v3 := (f32 _ _ (fun q => by have z := ti_nat (i := v28) (by exact om_0c7fd521 b5.2 b5.1 p6 h23 h29); exact om_13d4c4aa b5.2 b5.1 p6 h23 h29 q.2 z)).trans c4
  have c35 : I30 a1 0 = v7 := (f32 _ _ (fun q => by have z := ti_nat (i := v28) (by exact om_0c7fd521 b5.2 b5.1 p6 h23 h29); exact om_94724d56 b5.2 b5.1 p6 h23 h29 q.2 z)).trans c8
  have c36 : I30 a1 2 = v9 := (f32 _ _ (fun q => by have z := ti_nat (i := v28) (by exact om_0c7fd521 b5.2 b5.1 p6 h23 h29); exact om_3099a058 b5.2 b5.1 p6 h23 h29 q.2 z)).trans c10
  refine tr_aload_n dX12_comes_14 rfl ?_
  refine tr_getR dX12_comes_15 fl12_17 (kR15 hS31.1 ta0) d2 ?_
  refine q_bipush dX12_comes_18 (by decide +kernel) ?_
  intro v37 h38
  refine tr_aload_n dX12_comes_20 rfl ?_
  refine tr_getR dX12_comes_21 fl12_17 (kR15 hS31.1 ta0) d2 ?_
  refine q_iconst dX12_comes_24 (by decide) ?_
  intro v39 h40
  refine q_iald dX12_comes_25 (kR77 hS31.1 ta1) (ti_in (nR77 hS31.1 ta1) (by exact om_f9079521 h40) (by exact om_73248752 h40)) ?_
  intro v41 c42
  rw [show v39.toNatClampNeg = 1 from ti_cl (by exact om_21c44602 h40)] at c42
  obtain rfl : v3 = v41 := (c34).symm.trans c42
  refine q_iaddE dX12_comes_26 (by intro j1 j2 j3 j4; exact om_821d5428 b5.2 b5.1 p6 h23 h29 h38) ?_
  intro v43 h44
  refine tr_iload_n dX12_comes_27 rfl ?_
  refine q_iast dX12_comes_28 (kR77 hS31.1 ta1) (ti_in (nR77 hS31.1 ta1) (by exact om_85288933 b5.2 b5.1 p6 h23 h29 h38 h44) (by exact om_4479dc8c b5.2 b5.1 p6 h23 h29 h38 h44)) hS31 ta1 (iok_w3 rfl (by have q := ti_nat (i := v43) (by exact om_85288933 b5.2 b5.1 p6 h23 h29 h38 h44); exact om_4e88db5d b5.2 b5.1 p6 h23 h29 h38 h44 q) (by exact om_d956ef70 hx2)) rfl (by rfl) ?_
  intro I45 hS46 e48 f47
  have c49 : I45 a1 1 = v3 := (f47 _ _ (fun q => by have z := ti_nat (i := v43) (by exact om_85288933 b5.2 b5.1 p6 h23 h29 h38 h44); exact om_29bd8373 b5.2 b5.1 p6 h23 h29 h38 h44 q.2 z)).trans c34
  have c50 : I45 a1 0 = v7 := (f47 _ _ (fun q => by have z := ti_nat (i := v43) (by exact om_85288933 b5.2 b5.1 p6 h23 h29 h38 h44); exact om_d8bd6156 b5.2 b5.1 p6 h23 h29 h38 h44 q.2 z)).trans c35
  have c51 : I45 a1 2 = v9 := (f47 _ _ (fun q => by have z := ti_nat (i := v43) (by exact om_85288933 b5.2 b5.1 p6 h23 h29 h38 h44); exact om_0c901bcf b5.2 b5.1 p6 h23 h29 h38 h44 q.2 z)).trans c36
  refine tr_aload_n dX12_comes_29 rfl ?_
  refine tr_getR dX12_comes_30 fl12_17 (kR15 hS46.1 ta0) d2 ?_
  refine q_iconst dX12_comes_33 (by decide) ?_
  intro v52 h53
  refine tr_dup2 dX12_comes_34 rfl rfl ?_
  refine q_iald dX12_comes_35 (kR77 hS46.1 ta1) (ti_in (nR77 hS46.1 ta1) (by exact om_f9079521 h53) (by exact om_73248752 h53)) ?_
  intro v54 c55
  rw [show v52.toNatClampNeg = 1 from ti_cl (by exact om_21c44602 h53)] at c55
  obtain rfl : v3 = v54 := (c49).symm.trans c55
  refine q_iconst dX12_comes_36 (by decide) ?_
  intro v56 h57
  refine q_iaddE dX12_comes_37 (by intro j1 j2 j3 j4; exact om_d8376b63 b5.2 b5.1 p6 h23 h29 h38 h44 h57) ?_
  intro v58 h59
  refine q_iast dX12_comes_38 (kR77 hS46.1 ta1) (ti_in (nR77 hS46.1 ta1) (by exact om_f9079521 h53) (by exact om_73248752 h53)) hS46 ta1 (iok_w1 rfl (by have q := ti_nat (i := v52) (by exact om_f9079521 h53); exact om_7d18bd26 h53 q) (by exact om_ff6c6749 b5.2 b5.1 p6 h23 h29 h38 h44 h57 h59)) rfl (by rfl) ?_
  intro I60 hS61 e63 f62
  have c64 : I60 a1 0 = v7 := (f62 _ _ (fun q => by have z := ti_nat (i := v52) (by exact om_f9079521 h53); exact om_660ed6cc h53 q.2 z)).trans c50
  have c65 : I60 a1 2 = v9 := (f62 _ _ (fun q => by have z := ti_nat (i := v52) (by exact om_f9079521 h53); exact om_13a0f515 h53 q.2 z)).trans c51
  rw [show v52.toNatClampNeg = 1 from ti_cl (by exact om_21c44602 h53)] at e63
  exact tr_vret hZ dX12_comes_39 rfl (by decide) (by decide) ⟨rfl, rfl, rfl, rfl, rfl, rfl, hS61, (fun q0 z0 => by obtain rfl := Option.some.inj ((d2).symm.trans z0); (try rw [e63]); (try rw [c4]); first | done | with_reducible assumption | exact om_93e7bee8 h23 h29 h38 h44 h57 h59), (fun q0 z0 => by obtain rfl := Option.some.inj ((d2).symm.trans z0); (try rw [c64]); (try rw [c8]); first | done | with_reducible assumption | omega), (fun q0 z0 => by obtain rfl := Option.some.inj ((d2).symm.trans z0); (try rw [c65]); (try rw [c10]); first | done | with_reducible assumption | omega), trivial⟩
def wik_X12_cloud : List Nat := [960, 961, 962, 979, 4991, 5055]
def wrk_X12_cloud : List Nat := []
def Cs_X12_cloud (T : Nat → Nat) (I0 : cz_I) (R0 : cz_R) (a0 : Nat) (x1 : Int32) (x2 : Int32) (v : Int32) (I' : cz_I) (R' : cz_R) : Prop :=
  ((v.toInt = 0) ∧ (R0 a0 3 = none) ∧ (SmM T I0 I' a0) ∧ True) ∨
  ((∀ b1, R0 a0 3 = some b1 → (((x1.toInt < 0 ∨ x1.toInt ≥ (I0 b1 0).toInt) ∨ x2.toInt ≤ x1.toInt) ∨ x2.toInt > (I0 b1 0).toInt)) ∧ (v.toInt = 0) ∧ (∃ b, R0 a0 3 = some b) ∧ (SmM T I0 I' a0) ∧ True) ∨
  ((0 ≤ x1.toInt) ∧ (x1.toInt < x2.toInt) ∧ (∀ b1, R0 a0 3 = some b1 → x2.toInt ≤ (I0 b1 0).toInt) ∧ (∀ b1, R0 a0 16 = some b1 → (I0 b1 1).toInt = 6) ∧ (v.toInt = 0) ∧ (∃ b, R0 a0 3 = some b) ∧ (SmM T I0 I' a0) ∧ True) ∨
  ((((I0 a0 19).toInt < 12 → (I' a0 19).toInt = (I0 a0 19).toInt + 1)) ∧ (((I0 a0 19).toInt ≥ 12 → (I' a0 19).toInt = 12)) ∧ (0 ≤ x1.toInt) ∧ (x1.toInt < x2.toInt) ∧ (∀ b1, R0 a0 3 = some b1 → x2.toInt ≤ (I0 b1 0).toInt) ∧ (∀ b1, R0 a0 16 = some b1 → (I0 b1 1).toInt ≤ 5) ∧ (v.toInt = 1) ∧ (∀ b1, R0 a0 16 = some b1 → (I' b1 1).toInt = (I0 b1 1).toInt + 1) ∧ (∀ b1, R0 a0 16 = some b1 → (I' b1 0).toInt = (I0 b1 0).toInt) ∧ (∀ b1, R0 a0 16 = some b1 → (I' b1 2).toInt = (I0 b1 2).toInt) ∧ (∃ b, R0 a0 3 = some b) ∧ (∀ w p, R0 a0 16 = some w → R0 a0 17 = some p → KeM I0 I' w p (I0 a0 19).toInt) ∧ True)
set_option maxHeartbeats 4000000 in
theorem fk_X12_cloud {l : Launch} {T : Nat → Nat} {cn : Nat} {K N : Nat → Nat} {I0 : cz_I} {R0 : cz_R} {L0 : cz_L} {d : Int} (hW0 : Wf T cn K N I0 R0 d)  {a0 : Nat} (ta0 : T a0 = 15) {x1 : Int32} {x2 : Int32} : ConE l mX12_cloud [.ref a0, .int x1, .int x2] cn K N I0 R0 L0 (ca_i (fun v cn' K' N' I' R' L' => cn = cn' ∧ K = K' ∧ N = N' ∧ R0 = R' ∧ L0 = L' ∧ St T cn K N d wik_X12_cloud wrk_X12_cloud I0 R0 I' R0 ∧ (0 ≤ v.toInt ∧ v.toInt ≤ 1) ∧ Cs_X12_cloud T I0 R0 a0 x1 x2 v I' R0 ∧ True)) := by
  refine ConE.of (by decide +kernel) rfl (Nat.le_of_ble_eq_true rfl) rfl (fun X hX hZ hE => ?_)
  subst hX
  have hS0 : St T cn K N d wik_X12_cloud wrk_X12_cloud I0 R0 I0 R0 := St.rf0 hW0
  obtain ⟨a1, d2, ta1⟩ := rf15_16 hW0 ta0
  obtain ⟨v3, c4⟩ : ∃ v, I0 a1 1 = v := ⟨_, rfl⟩
  have b5 := iv77_1 hS0.1 ta1 (by decide) c4
  obtain ⟨v6, c7⟩ : ∃ v, I0 a0 19 = v := ⟨_, rfl⟩
  have b8 := iv15_19 hS0.1 ta0 c7
  obtain ⟨v9, c10⟩ : ∃ v, I0 a1 0 = v := ⟨_, rfl⟩
  obtain ⟨v11, c12⟩ : ∃ v, I0 a1 2 = v := ⟨_, rfl⟩
  have b13 := iv77_2 hS0.1 ta1 (by decide) c12
  obtain ⟨v14, c15⟩ : ∃ v, I0 a0 20 = v := ⟨_, rfl⟩
  have b16 := iv15_20 hW0 ta0 c15
  obtain ⟨a17, d18, ta17⟩ := rf15_17 hW0 ta0
  obtain ⟨a19, d20, ta19⟩ := rf15_18 hW0 ta0
  rcases rf15_3 hW0 ta0 with d22 | ⟨a21, d22, ta21⟩
  · skip
    refine tr_aload_n dX12_cloud_0 rfl ?_
    refine q_iconst dX12_cloud_1 (by decide) ?_
    intro v23 h24
    refine q_putI dX12_cloud_2 fl12_70 (kR15 hS0.1 ta0) (Or.inl rfl) hS0 ta0 (iokF rfl) rfl (by decide +kernel) ?_
    intro I25 hS26 e27 f28
    have c29 : I25 a1 1 = v3 := (f28 _ _ (fun q => absurd q.2 (by decide))).trans c4
    have c30 : I25 a0 19 = v6 := (f28 _ _ (fun q => absurd q.2 (by decide))).trans c7
    have c31 : I25 a1 0 = v9 := (f28 _ _ (fun q => by have z := ta1; rw [q.1, ta0] at z; exact absurd z (by decide))).trans c10
    have c32 : I25 a1 2 = v11 := (f28 _ _ (fun q => absurd q.2 (by decide))).trans c12
    refine tr_aload_n dX12_cloud_5 rfl ?_
    refine tr_getN dX12_cloud_6 fl12_385 (kR15 hS26.1 ta0) d22 ?_
    refine tr_ifnonnullN dX12_cloud_9 ?_
    refine tr_aload_n dX12_cloud_12 rfl ?_
    refine q_iconst dX12_cloud_13 (by decide) ?_
    intro v33 h34
    refine q_callVi hE (M' := mX12_denied) (as := [_]) dX12_cloud_14 lk12_507 inX12_denied seX12_denied myX12_denied (by decide) ⟨by decide, by decide⟩ rfl (kR15 hS26.1 ta0) (Nat.le_of_ble_eq_true rfl) rfl rfl (by decide) (by decide) (fk_X12_denied hS26.1  ta0) ?_
    rintro v40 cn' K' N' I35 R36 L37 ⟨rfl, rfl, rfl, rfl, rfl, g38, h41, p42, -⟩
    have hS43 := hS26.tr g38 (by decide +kernel) (by decide +kernel)
    have c44 : I35 a1 1 = v3 := (g38.cell ta1 (by decide +kernel)).trans c29
    have c45 : I35 a0 19 = v6 := (g38.cell ta0 (by decide +kernel)).trans c30
    have c46 : I35 a1 0 = v9 := (g38.cell ta1 (by decide +kernel)).trans c31
    have c47 : I35 a1 2 = v11 := (g38.cell ta1 (by decide +kernel)).trans c32
    have c48 : I35 a0 0 = v23 := (g38.cell ta0 (by decide +kernel)).trans e27
    exact tr_zret hZ dX12_cloud_17 rfl (ti_b01 (by exact om_d99fa9e4 p42) (by exact om_d3de7ec9 p42)) (by decide) (by decide) ⟨v40, rfl, rfl, rfl, rfl, rfl, rfl, hS43, (by exact om_be53a44c h41), (Or.inl ⟨(by first | done | with_reducible assumption | omega), d22, ⟨(c45).trans (c7).symm, (((hS43.cell ta0 (by decide +kernel)).trans c15)).trans (c15).symm, fun a j h => by rcases h with h | h | h; exact ((g38.cell h (wm_no (by decide +kernel))).trans (f28 _ _ (fun q => by have z := h; rw [q.1, ta0] at z; exact absurd z (by decide)))); exact ((g38.cell h (wm_no (by decide +kernel))).trans (f28 _ _ (fun q => by have z := h; rw [q.1, ta0] at z; exact absurd z (by decide)))); exact ((g38.cell h (wm_no (by decide +kernel))).trans (f28 _ _ (fun q => by have z := h; rw [q.1, ta0] at z; exact absurd z (by decide))))⟩, trivial⟩), trivial⟩
  · skip
    refine tr_aload_n dX12_cloud_0 rfl ?_
    refine q_iconst dX12_cloud_1 (by decide) ?_
    intro v49 h50
    refine q_putI dX12_cloud_2 fl12_70 (kR15 hS0.1 ta0) (Or.inl rfl) hS0 ta0 (iokF rfl) rfl (by decide +kernel) ?_
    intro I51 hS52 e53 f54
    have c55 : I51 a1 1 = v3 := (f54 _ _ (fun q => absurd q.2 (by decide))).trans c4
    have c56 : I51 a0 19 = v6 := (f54 _ _ (fun q => absurd q.2 (by decide))).trans c7
    have c57 : I51 a1 0 = v9 := (f54 _ _ (fun q => by have z := ta1; rw [q.1, ta0] at z; exact absurd z (by decide))).trans c10
    have c58 : I51 a1 2 = v11 := (f54 _ _ (fun q => absurd q.2 (by decide))).trans c12
    refine tr_aload_n dX12_cloud_5 rfl ?_
    refine tr_getR dX12_cloud_6 fl12_385 (kR15 hS52.1 ta0) d22 ?_
    refine tr_ifnonnull 18 dX12_cloud_9 (by decide) ?_
    refine tr_aload_n dX12_cloud_18 rfl ?_
    refine tr_iload_n dX12_cloud_19 rfl ?_
    obtain ⟨v59, c60⟩ : ∃ v, I0 a21 0 = v := ⟨_, rfl⟩
    have b61 := hW0.2.2.2.2.2.1 a0 ta0 _ d22
    rw [c60] at b61
    have b62 := iv14_0 hW0 ta21 c60
    refine q_callVi hE (M' := mX12_isMinute) (as := [_]) dX12_cloud_20 lk12_443 inX12_isMinute seX12_isMinute myX12_isMinute (by decide) ⟨by decide, by decide⟩ rfl (kR15 hS52.1 ta0) (Nat.le_of_ble_eq_true rfl) rfl rfl (by decide) (by decide) (fk_X12_isMinute hS52.1  ta0 ⟨_, d22⟩) ?_
    rintro v68 cn' K' N' I63 R64 L65 ⟨rfl, rfl, rfl, rfl, rfl, rfl, h69, p70, p71, -⟩
    have p72 := p70 _ d22
    clear p70
    rw [((hS52.cell ta21 (by decide +kernel)).trans c60)] at p72
    have p73 := p71 _ d22
    clear p71
    rw [((hS52.cell ta21 (by decide +kernel)).trans c60)] at p73
    refine q_if_eq 43 dX12_cloud_23 (by decide) (fun h74 => ?_) (fun h74 => ?_)
    · skip
      refine tr_aload_n dX12_cloud_43 rfl ?_
      refine q_iconst dX12_cloud_44 (by decide) ?_
      intro v75 h76
      refine q_callVi hE (M' := mX12_denied) (as := [_]) dX12_cloud_45 lk12_507 inX12_denied seX12_denied myX12_denied (by decide) ⟨by decide, by decide⟩ rfl (kR15 hS52.1 ta0) (Nat.le_of_ble_eq_true rfl) rfl rfl (by decide) (by decide) (fk_X12_denied hS52.1  ta0) ?_
      rintro v82 cn' K' N' I77 R78 L79 ⟨rfl, rfl, rfl, rfl, rfl, g80, h83, p84, -⟩
      have hS85 := hS52.tr g80 (by decide +kernel) (by decide +kernel)
      have c86 : I77 a1 1 = v3 := (g80.cell ta1 (by decide +kernel)).trans c55
      have c87 : I77 a0 19 = v6 := (g80.cell ta0 (by decide +kernel)).trans c56
      have c88 : I77 a1 0 = v9 := (g80.cell ta1 (by decide +kernel)).trans c57
      have c89 : I77 a1 2 = v11 := (g80.cell ta1 (by decide +kernel)).trans c58
      have c90 : I77 a0 0 = v49 := (g80.cell ta0 (by decide +kernel)).trans e53
      exact tr_zret hZ dX12_cloud_48 rfl (ti_b01 (by exact om_d99fa9e4 p84) (by exact om_d3de7ec9 p84)) (by decide) (by decide) ⟨v82, rfl, rfl, rfl, rfl, rfl, rfl, hS85, (by exact om_be53a44c h83), (by first | exact Or.inr (Or.inl ⟨(fun q0 z0 => by obtain rfl := Option.some.inj ((d22).symm.trans z0); (try rw [c60]); first | done | with_reducible assumption | exact om_3d12acb9 p73 h74), (by first | done | with_reducible assumption | omega), ⟨_, d22⟩, ⟨(c87).trans (c7).symm, (((hS85.cell ta0 (by decide +kernel)).trans c15)).trans (c15).symm, fun a j h => by rcases h with h | h | h; exact ((g80.cell h (wm_no (by decide +kernel))).trans (f54 _ _ (fun q => by have z := h; rw [q.1, ta0] at z; exact absurd z (by decide)))); exact ((g80.cell h (wm_no (by decide +kernel))).trans (f54 _ _ (fun q => by have z := h; rw [q.1, ta0] at z; exact absurd z (by decide)))); exact ((g80.cell h (wm_no (by decide +kernel))).trans (f54 _ _ (fun q => by have z := h; rw [q.1, ta0] at z; exact absurd z (by decide))))⟩, trivial⟩) | exact Or.inr (Or.inr (Or.inl ⟨(by first | done | with_reducible assumption | omega), (by first | done | with_reducible assumption | omega), (fun q0 z0 => by obtain rfl := Option.some.inj ((d22).symm.trans z0); (try rw [c60]); first | done | with_reducible assumption | omega), (fun q0 z0 => by obtain rfl := Option.some.inj ((d2).symm.trans z0); (try rw [c4]); first | done | with_reducible assumption | omega), (by first | done | with_reducible assumption | omega), ⟨_, d22⟩, ⟨(c87).trans (c7).symm, (((hS85.cell ta0 (by decide +kernel)).trans c15)).trans (c15).symm, fun a j h => by rcases h with h | h | h; exact ((g80.cell h (wm_no (by decide +kernel))).trans (f54 _ _ (fun q => by have z := h; rw [q.1, ta0] at z; exact absurd z (by decide)))); exact ((g80.cell h (wm_no (by decide +kernel))).trans (f54 _ _ (fun q => by have z := h; rw [q.1, ta0] at z; exact absurd z (by decide)))); exact ((g80.cell h (wm_no (by decide +kernel))).trans (f54 _ _ (fun q => by have z := h; rw [q.1, ta0] at z; exact absurd z (by decide))))⟩, trivial⟩))), trivial⟩
    · skip
      refine tr_iload_n dX12_cloud_26 rfl ?_
      refine tr_iload_n dX12_cloud_27 rfl ?_
      refine q_iconst dX12_cloud_28 (by decide) ?_
      intro v91 h92
      refine q_iaddE dX12_cloud_29 (by intro j1 j2 j3 j4; exact om_6165b503 b61 b62.2 h69.2 h69.1 p72 p73 h74 h92 j1 j2) ?_
      intro v93 h94
      refine tr_aload_n dX12_cloud_30 rfl ?_
      refine tr_getR dX12_cloud_31 fl12_385 (kR15 hS52.1 ta0) d22 ?_
      refine q_getI dX12_cloud_34 fl12_192 (kR14 hS52.1 ta21) ((hS52.cell ta21 (by decide +kernel)).trans c60) ?_
      refine q_callSi hE (M' := mX12_in) (as := [_, _, _]) dX12_cloud_37 lk12_149 inX12_in myX12_in ⟨by decide, by decide⟩ rfl (Nat.le_of_ble_eq_true rfl) rfl rfl (by decide) (by decide) (fk_X12_in hS52.1  ) ?_
      rintro v100 cn' K' N' I95 R96 L97 ⟨rfl, rfl, rfl, rfl, rfl, rfl, h101, dj102, -⟩
      rcases dj102 with ⟨p103, p104, p105, -⟩ | ⟨p106, p107, -⟩
      · skip
        refine q_if_ne 49 dX12_cloud_40 (by decide) (fun h108 => ?_) (fun h108 => ?_)
        · skip
          refine tr_aload_n dX12_cloud_49 rfl ?_
          refine tr_getR dX12_cloud_50 fl12_17 (kR15 hS52.1 ta0) d2 ?_
          refine q_iconst dX12_cloud_53 (by decide) ?_
          intro v109 h110
          refine q_iald dX12_cloud_54 (kR77 hS52.1 ta1) (ti_in (nR77 hS52.1 ta1) (by exact om_f9079521 h110) (by exact om_73248752 h110)) ?_
          intro v111 c112
          rw [show v109.toNatClampNeg = 1 from ti_cl (by exact om_21c44602 h110)] at c112
          obtain rfl : v3 = v111 := (c55).symm.trans c112
          refine q_bipush dX12_cloud_55 (by decide +kernel) ?_
          intro v113 h114
          refine q_icmp_ne 66 dX12_cloud_57 (by decide) (fun h115 => ?_) (fun h115 => ?_)
          · skip
            refine tr_aload_n dX12_cloud_66 rfl ?_
            refine q_callVv hE (M' := mX12_keeps) (as := []) dX12_cloud_67 lk12_510 inX12_keeps seX12_keeps myX12_keeps (by decide) ⟨by decide, by decide⟩ rfl (kR15 hS52.1 ta0) (Nat.le_of_ble_eq_true rfl) rfl rfl (by decide) (by decide) (fk_X12_keeps hS52.1  ta0) ?_
            rintro cn' K' N' I116 R117 L118 ⟨rfl, rfl, rfl, rfl, rfl, g119, p122, p123, rp124, -⟩
            have hS125 := hS52.tr g119 (by decide +kernel) (by decide +kernel)
            have c126 : I116 a1 1 = v3 := (g119.cell ta1 (by decide +kernel)).trans c55
            have c127 : I116 a1 0 = v9 := (g119.cell ta1 (by decide +kernel)).trans c57
            have c128 : I116 a1 2 = v11 := (g119.cell ta1 (by decide +kernel)).trans c58
            have c129 : I116 a0 0 = v49 := (g119.cell ta0 (by decide +kernel)).trans e53
            obtain ⟨v130, c131⟩ : ∃ v, I116 a0 19 = v := ⟨_, rfl⟩
            have b132 := iv15_19 hS125.1 ta0 c131
            rw [c56] at p122
            rw [c131] at p122
            rw [c56] at p123
            rw [c131] at p123
            refine tr_aload_n dX12_cloud_70 rfl ?_
            refine tr_iload_n dX12_cloud_71 rfl ?_
            refine tr_iload_n dX12_cloud_72 rfl ?_
            refine q_callVv hE (M' := mX12_comes) (as := [_, _]) dX12_cloud_73 lk12_500 inX12_comes seX12_comes myX12_comes (by decide) ⟨by decide, by decide⟩ rfl (kR15 hS125.1 ta0) (Nat.le_of_ble_eq_true rfl) rfl rfl (by decide) (by decide) (fk_X12_comes hS125.1  ta0 (by exact om_66dbd987 b5.2 b5.1 b8.2 b8.1 b61 b62.2 h69.2 h69.1 p72 p73 h74 h92 h94 p103 p104 p105 h108 h114 h115 p123 p122) (by exact om_7f6680a4 b5.2 b5.1 b8.2 b8.1 b61 b62.2 h69.2 h69.1 p72 p73 h74 h92 h94 p103 p104 p105 h108 h114 h115 p123 p122) (fun q0 z0 => by obtain rfl := Option.some.inj ((d2).symm.trans z0); (try rw [c126]); first | done | with_reducible assumption | exact om_9eea1bb6 b5.2 b5.1 b8.2 b8.1 h114 h115 p123 p122)) ?_
            rintro cn' K' N' I133 R134 L135 ⟨rfl, rfl, rfl, rfl, rfl, g136, p139, p140, p141, -⟩
            have hS142 := hS125.tr g136 (by decide +kernel) (by decide +kernel)
            have c143 : I133 a0 0 = v49 := (g136.cell ta0 (by decide +kernel)).trans c129
            have c144 : I133 a0 19 = v130 := (g136.cell ta0 (by decide +kernel)).trans c131
            obtain ⟨v145, c146⟩ : ∃ v, I133 a1 1 = v := ⟨_, rfl⟩
            have b147 := iv77_1 hS142.1 ta1 (by decide) c146
            have p148 := p139 _ d2
            clear p139
            rw [c146] at p148
            rw [c126] at p148
            obtain ⟨v149, c150⟩ : ∃ v, I133 a1 0 = v := ⟨_, rfl⟩
            have p151 := p140 _ d2
            clear p140
            rw [c150] at p151
            rw [c127] at p151
            obtain ⟨v152, c153⟩ : ∃ v, I133 a1 2 = v := ⟨_, rfl⟩
            have b154 := iv77_2 hS142.1 ta1 (by decide) c153
            have p155 := p141 _ d2
            clear p141
            rw [c153] at p155
            rw [c128] at p155
            refine tr_aload_n dX12_cloud_76 rfl ?_
            refine q_callVi hE (M' := mX12_granted) (as := []) dX12_cloud_77 lk12_513 inX12_granted seX12_granted myX12_granted (by decide) ⟨by decide, by decide⟩ rfl (kR15 hS142.1 ta0) (Nat.le_of_ble_eq_true rfl) rfl rfl (by decide) (by decide) (fk_X12_granted hS142.1  ta0) ?_
            rintro v161 cn' K' N' I156 R157 L158 ⟨rfl, rfl, rfl, rfl, rfl, g159, h162, p163, -⟩
            have hS164 := hS142.tr g159 (by decide +kernel) (by decide +kernel)
            have c165 : I156 a0 0 = v49 := (g159.cell ta0 (by decide +kernel)).trans c143
            have c166 : I156 a0 19 = v130 := (g159.cell ta0 (by decide +kernel)).trans c144
            have c167 : I156 a1 1 = v145 := (g159.cell ta1 (by decide +kernel)).trans c146
            have c168 : I156 a1 0 = v149 := (g159.cell ta1 (by decide +kernel)).trans c150
            have c169 : I156 a1 2 = v152 := (g159.cell ta1 (by decide +kernel)).trans c153
            exact tr_zret hZ dX12_cloud_80 rfl (ti_b01 (by exact om_f9079521 p163) (by exact om_e6632817 p163)) (by decide) (by decide) ⟨v161, rfl, rfl, rfl, rfl, rfl, rfl, hS164, (by exact om_be53a44c h162), (Or.inr (Or.inr (Or.inr (⟨(by (try rw [c7]); (try rw [c166]); first | done | with_reducible assumption | omega), (by (try rw [c7]); (try rw [c166]); first | done | with_reducible assumption | omega), (by first | done | with_reducible assumption | exact om_0a6e756c b5.2 b5.1 b8.2 b8.1 h69.2 h69.1 p72 p73 h74 h92 h94 p103 p104 p105 h108 h114 h115 p123 p122 b147.2 b147.1 p148), (by first | done | with_reducible assumption | exact om_46495089 h92 h94 p104), (fun q0 z0 => by obtain rfl := Option.some.inj ((d22).symm.trans z0); (try rw [c60]); first | done | with_reducible assumption | omega), (fun q0 z0 => by obtain rfl := Option.some.inj ((d2).symm.trans z0); (try rw [c4]); first | done | with_reducible assumption | exact om_92d03419 b5.2 b5.1 b147.2 b147.1 p148), (by first | done | with_reducible assumption | omega), (fun q0 z0 => by obtain rfl := Option.some.inj ((d2).symm.trans z0); (try rw [c167]); (try rw [c4]); first | done | with_reducible assumption | omega), (fun q0 z0 => by obtain rfl := Option.some.inj ((d2).symm.trans z0); (try rw [c168]); (try rw [c10]); first | done | with_reducible assumption | omega), (fun q0 z0 => by obtain rfl := Option.some.inj ((d2).symm.trans z0); (try rw [c169]); (try rw [c12]); first | done | with_reducible assumption | omega), ⟨_, d22⟩, (fun w p hw hp => by obtain rfl := Option.some.inj (d2.symm.trans hw); obtain rfl := Option.some.inj (d18.symm.trans hp); have z := rp124 _ _ d2 d18; rw [c56] at z; rw [c7]; exact KeM.kp z (fun k => (f54 _ _ (fun q => by have z := ta17; rw [q.1, ta0] at z; exact absurd z (by decide)))) (fun k => (f54 _ _ (fun q => by have z := ta1; rw [q.1, ta0] at z; exact absurd z (by decide)))) (fun k => ((g159.cell ta17 (wm_no (by decide +kernel))).trans (g136.cell ta17 (wm_no (by decide +kernel)))))), trivial⟩)))), trivial⟩
          · skip
            refine tr_aload_n dX12_cloud_60 rfl ?_
            refine q_iconst dX12_cloud_61 (by decide) ?_
            intro v170 h171
            refine q_callVi hE (M' := mX12_denied) (as := [_]) dX12_cloud_62 lk12_507 inX12_denied seX12_denied myX12_denied (by decide) ⟨by decide, by decide⟩ rfl (kR15 hS52.1 ta0) (Nat.le_of_ble_eq_true rfl) rfl rfl (by decide) (by decide) (fk_X12_denied hS52.1  ta0) ?_
            rintro v177 cn' K' N' I172 R173 L174 ⟨rfl, rfl, rfl, rfl, rfl, g175, h178, p179, -⟩
            have hS180 := hS52.tr g175 (by decide +kernel) (by decide +kernel)
            have c181 : I172 a1 1 = v3 := (g175.cell ta1 (by decide +kernel)).trans c55
            have c182 : I172 a0 19 = v6 := (g175.cell ta0 (by decide +kernel)).trans c56
            have c183 : I172 a1 0 = v9 := (g175.cell ta1 (by decide +kernel)).trans c57
            have c184 : I172 a1 2 = v11 := (g175.cell ta1 (by decide +kernel)).trans c58
            have c185 : I172 a0 0 = v49 := (g175.cell ta0 (by decide +kernel)).trans e53
            exact tr_zret hZ dX12_cloud_65 rfl (ti_b01 (by exact om_d99fa9e4 p179) (by exact om_d3de7ec9 p179)) (by decide) (by decide) ⟨v177, rfl, rfl, rfl, rfl, rfl, rfl, hS180, (by exact om_be53a44c h178), (by first | exact Or.inr (Or.inl ⟨(fun q0 z0 => by obtain rfl := Option.some.inj ((d22).symm.trans z0); (try rw [c60]); first | done | with_reducible assumption | fail), (by first | done | with_reducible assumption | omega), ⟨_, d22⟩, ⟨(c182).trans (c7).symm, (((hS180.cell ta0 (by decide +kernel)).trans c15)).trans (c15).symm, fun a j h => by rcases h with h | h | h; exact ((g175.cell h (wm_no (by decide +kernel))).trans (f54 _ _ (fun q => by have z := h; rw [q.1, ta0] at z; exact absurd z (by decide)))); exact ((g175.cell h (wm_no (by decide +kernel))).trans (f54 _ _ (fun q => by have z := h; rw [q.1, ta0] at z; exact absurd z (by decide)))); exact ((g175.cell h (wm_no (by decide +kernel))).trans (f54 _ _ (fun q => by have z := h; rw [q.1, ta0] at z; exact absurd z (by decide))))⟩, trivial⟩) | exact Or.inr (Or.inr (Or.inl ⟨(by first | done | with_reducible assumption | exact om_c5e01b88 h69.2 h69.1 p72 p73 h74 h92 h94 p103 p104 p105 h108), (by first | done | with_reducible assumption | exact om_46495089 h92 h94 p104), (fun q0 z0 => by obtain rfl := Option.some.inj ((d22).symm.trans z0); (try rw [c60]); first | done | with_reducible assumption | omega), (fun q0 z0 => by obtain rfl := Option.some.inj ((d2).symm.trans z0); (try rw [c4]); first | done | with_reducible assumption | exact om_44618ec2 h114 h115), (by first | done | with_reducible assumption | omega), ⟨_, d22⟩, ⟨(c182).trans (c7).symm, (((hS180.cell ta0 (by decide +kernel)).trans c15)).trans (c15).symm, fun a j h => by rcases h with h | h | h; exact ((g175.cell h (wm_no (by decide +kernel))).trans (f54 _ _ (fun q => by have z := h; rw [q.1, ta0] at z; exact absurd z (by decide)))); exact ((g175.cell h (wm_no (by decide +kernel))).trans (f54 _ _ (fun q => by have z := h; rw [q.1, ta0] at z; exact absurd z (by decide)))); exact ((g175.cell h (wm_no (by decide +kernel))).trans (f54 _ _ (fun q => by have z := h; rw [q.1, ta0] at z; exact absurd z (by decide))))⟩, trivial⟩))), trivial⟩
        · skip
          exfalso; exact om_3624102b p103 h108
      · skip
        refine q_if_ne 49 dX12_cloud_40 (by decide) (fun h186 => ?_) (fun h186 => ?_)
        · skip
          exfalso; exact om_3a97d4a5 p106 h186
        · skip
          refine tr_aload_n dX12_cloud_43 rfl ?_
          refine q_iconst dX12_cloud_44 (by decide) ?_
          intro v187 h188
          refine q_callVi hE (M' := mX12_denied) (as := [_]) dX12_cloud_45 lk12_507 inX12_denied seX12_denied myX12_denied (by decide) ⟨by decide, by decide⟩ rfl (kR15 hS52.1 ta0) (Nat.le_of_ble_eq_true rfl) rfl rfl (by decide) (by decide) (fk_X12_denied hS52.1  ta0) ?_
          rintro v194 cn' K' N' I189 R190 L191 ⟨rfl, rfl, rfl, rfl, rfl, g192, h195, p196, -⟩
          have hS197 := hS52.tr g192 (by decide +kernel) (by decide +kernel)
          have c198 : I189 a1 1 = v3 := (g192.cell ta1 (by decide +kernel)).trans c55
          have c199 : I189 a0 19 = v6 := (g192.cell ta0 (by decide +kernel)).trans c56
          have c200 : I189 a1 0 = v9 := (g192.cell ta1 (by decide +kernel)).trans c57
          have c201 : I189 a1 2 = v11 := (g192.cell ta1 (by decide +kernel)).trans c58
          have c202 : I189 a0 0 = v49 := (g192.cell ta0 (by decide +kernel)).trans e53
          exact tr_zret hZ dX12_cloud_48 rfl (ti_b01 (by exact om_d99fa9e4 p196) (by exact om_d3de7ec9 p196)) (by decide) (by decide) ⟨v194, rfl, rfl, rfl, rfl, rfl, rfl, hS197, (by exact om_be53a44c h195), (by first | exact Or.inr (Or.inl ⟨(fun q0 z0 => by obtain rfl := Option.some.inj ((d22).symm.trans z0); (try rw [c60]); first | done | with_reducible assumption | exact om_0938a681 h92 h94 p107), (by first | done | with_reducible assumption | omega), ⟨_, d22⟩, ⟨(c199).trans (c7).symm, (((hS197.cell ta0 (by decide +kernel)).trans c15)).trans (c15).symm, fun a j h => by rcases h with h | h | h; exact ((g192.cell h (wm_no (by decide +kernel))).trans (f54 _ _ (fun q => by have z := h; rw [q.1, ta0] at z; exact absurd z (by decide)))); exact ((g192.cell h (wm_no (by decide +kernel))).trans (f54 _ _ (fun q => by have z := h; rw [q.1, ta0] at z; exact absurd z (by decide)))); exact ((g192.cell h (wm_no (by decide +kernel))).trans (f54 _ _ (fun q => by have z := h; rw [q.1, ta0] at z; exact absurd z (by decide))))⟩, trivial⟩) | exact Or.inr (Or.inr (Or.inl ⟨(by first | done | with_reducible assumption | omega), (by first | done | with_reducible assumption | omega), (fun q0 z0 => by obtain rfl := Option.some.inj ((d22).symm.trans z0); (try rw [c60]); first | done | with_reducible assumption | omega), (fun q0 z0 => by obtain rfl := Option.some.inj ((d2).symm.trans z0); (try rw [c4]); first | done | with_reducible assumption | omega), (by first | done | with_reducible assumption | omega), ⟨_, d22⟩, ⟨(c199).trans (c7).symm, (((hS197.cell ta0 (by decide +kernel)).trans c15)).trans (c15).symm, fun a j h => by rcases h with h | h | h; exact ((g192.cell h (wm_no (by decide +kernel))).trans (f54 _ _ (fun q => by have z := h; rw [q.1, ta0] at z; exact absurd z (by decide)))); exact ((g192.cell h (wm_no (by decide +kernel))).trans (f54 _ _ (fun q => by have z := h; rw [q.1, ta0] at z; exact absurd z (by decide)))); exact ((g192.cell h (wm_no (by decide +kernel))).trans (f54 _ _ (fun q => by have z := h; rw [q.1, ta0] at z; exact absurd z (by decide))))⟩, trivial⟩))), trivial⟩
def wik_X12_drawOf : List Nat := [4991]
def wrk_X12_drawOf : List Nat := []
set_option maxHeartbeats 4000000 in
theorem fk_X12_drawOf {l : Launch} {T : Nat → Nat} {cn : Nat} {K N : Nat → Nat} {I0 : cz_I} {R0 : cz_R} {L0 : cz_L} {d : Int} (hW0 : Wf T cn K N I0 R0 d)  {a0 : Nat} (ta0 : T a0 = 15) {x1 : Int32} (hx1 : 1 ≤ x1.toInt ∧ x1.toInt ≤ 240) : ConE l mX12_drawOf [.ref a0, .int x1] cn K N I0 R0 L0 (ca_i (fun v cn' K' N' I' R' L' => cn = cn' ∧ K = K' ∧ N = N' ∧ R0 = R' ∧ L0 = L' ∧ St T cn K N d wik_X12_drawOf wrk_X12_drawOf I0 R0 I' R0 ∧ (0 ≤ v.toInt ∧ v.toInt ≤ 239) ∧ (∀ b1, R0 a0 16 = some b1 → (I' b1 2).toInt = (dw (I0 b1 2).toInt)) ∧ (∀ b1, R0 a0 16 = some b1 → v.toInt = (dwm (I0 b1 2).toInt x1.toInt)) ∧ (∀ b1, R0 a0 16 = some b1 → (I' b1 0).toInt = (I0 b1 0).toInt) ∧ (∀ b1, R0 a0 16 = some b1 → (I' b1 1).toInt = (I0 b1 1).toInt) ∧ True)) := by
  refine ConE.of (by decide +kernel) rfl (Nat.le_of_ble_eq_true rfl) rfl (fun X hX hZ hE => ?_)
  subst hX
  have hS0 : St T cn K N d wik_X12_drawOf wrk_X12_drawOf I0 R0 I0 R0 := St.rf0 hW0
  obtain ⟨a1, d2, ta1⟩ := rf15_16 hW0 ta0
  obtain ⟨v3, c4⟩ : ∃ v, I0 a1 2 = v := ⟨_, rfl⟩
  have b5 := iv77_2 hS0.1 ta1 (by decide) c4
  obtain ⟨v6, c7⟩ : ∃ v, I0 a1 0 = v := ⟨_, rfl⟩
  obtain ⟨v8, c9⟩ : ∃ v, I0 a1 1 = v := ⟨_, rfl⟩
  have b10 := iv77_1 hS0.1 ta1 (by decide) c9
  obtain ⟨v11, c12⟩ : ∃ v, I0 a0 19 = v := ⟨_, rfl⟩
  have b13 := iv15_19 hW0 ta0 c12
  obtain ⟨v14, c15⟩ : ∃ v, I0 a0 20 = v := ⟨_, rfl⟩
  have b16 := iv15_20 hW0 ta0 c15
  obtain ⟨a17, d18, ta17⟩ := rf15_17 hW0 ta0
  obtain ⟨a19, d20, ta19⟩ := rf15_18 hW0 ta0
  refine tr_aload_n dX12_drawOf_0 rfl ?_
  refine tr_getR dX12_drawOf_1 fl12_17 (kR15 hS0.1 ta0) d2 ?_
  refine q_iconst dX12_drawOf_4 (by decide) ?_
  intro v21 h22
  refine q_ldc2E 75 dX12_drawOf_5 ld12_491 (by decide +kernel) ?_
  intro y23 h24
  refine tr_aload_n dX12_drawOf_8 rfl ?_
  refine tr_getR dX12_drawOf_9 fl12_17 (kR15 hS0.1 ta0) d2 ?_
  refine q_iconst dX12_drawOf_12 (by decide) ?_
  intro v25 h26
  refine q_iald dX12_drawOf_13 (kR77 hS0.1 ta1) (ti_in (nR77 hS0.1 ta1) (by exact om_bf35f35a h26) (by exact om_b96ee957 h26)) ?_
  intro v27 c28
  rw [show v25.toNatClampNeg = 2 from ti_cl (by exact om_b0719f56 h26)] at c28
  obtain rfl : v3 = v27 := (c4).symm.trans c28
  refine q_i2lE dX12_drawOf_14 ?_
  intro y29 h30
  refine q_lmulE (c := 75) dX12_drawOf_15 (by exact om_563a2c66 h24) (by exact om_f59da551 b5.2 b5.1 h30) ?_
  intro y31 h32
  refine q_ldc2E 74 dX12_drawOf_16 ld12_493 (by decide +kernel) ?_
  intro y33 h34
  refine q_laddE dX12_drawOf_19 (by exact om_89ebb345 b5.2 b5.1 h30 h32 h34) ?_
  intro y35 h36
  refine q_ldc2E 65537 dX12_drawOf_20 ld12_495 (by decide +kernel) ?_
  intro y37 h38
  refine q_lremV dX12_drawOf_23 (by exact om_7952589d b5.2 b5.1 h30 h32 h34 h36) (by exact om_1204c38e h38) ?_
  intro y39 h40
  have p41 : 0 ≤ y39.toInt ∧ y39.toInt < y37.toInt := by rw [h40]; exact ⟨Int.emod_nonneg _ (by exact om_59ce6793 h38), Int.emod_lt_of_pos _ (by exact om_1204c38e h38)⟩
  refine q_l2iE dX12_drawOf_24 (by exact om_0efaecb1 h38 h40 p41.2 p41.1) ?_
  intro v42 h43
  refine q_iast dX12_drawOf_25 (kR77 hS0.1 ta1) (ti_in (nR77 hS0.1 ta1) (by exact om_bf35f35a h22) (by exact om_b96ee957 h22)) hS0 ta1 (iok_w2 rfl (by have q := ti_nat (i := v21) (by exact om_bf35f35a h22); exact om_e6ef3c86 h22 q) (by exact om_409f2e79 h38 h40 p41.2 p41.1 h43)) rfl (by rfl) ?_
  intro I44 hS45 e47 f46
  have c48 : I44 a1 0 = v6 := (f46 _ _ (fun q => by have z := ti_nat (i := v21) (by exact om_bf35f35a h22); exact om_dc3faab9 h22 q.2 z)).trans c7
  have c49 : I44 a1 1 = v8 := (f46 _ _ (fun q => by have z := ti_nat (i := v21) (by exact om_bf35f35a h22); exact om_60b9cf8f h22 q.2 z)).trans c9
  rw [show v21.toNatClampNeg = 2 from ti_cl (by exact om_b0719f56 h22)] at e47
  refine tr_aload_n dX12_drawOf_26 rfl ?_
  refine tr_getR dX12_drawOf_27 fl12_17 (kR15 hS45.1 ta0) d2 ?_
  refine q_iconst dX12_drawOf_30 (by decide) ?_
  intro v50 h51
  refine q_iald dX12_drawOf_31 (kR77 hS45.1 ta1) (ti_in (nR77 hS45.1 ta1) (by exact om_bf35f35a h51) (by exact om_b96ee957 h51)) ?_
  intro v52 c53
  rw [show v50.toNatClampNeg = 2 from ti_cl (by exact om_b0719f56 h51)] at c53
  obtain rfl : v42 = v52 := (e47).symm.trans c53
  refine tr_iload_n dX12_drawOf_32 rfl ?_
  refine q_iremV dX12_drawOf_33 (by exact om_02e319bf h38 h40 p41.2 p41.1 h43) (by exact om_c09ccc3d hx1.2 hx1.1) ?_
  intro v54 h55
  have p56 : 0 ≤ v54.toInt ∧ v54.toInt < x1.toInt := by rw [h55]; exact ⟨Int.emod_nonneg _ (by exact om_e83f4491 hx1.2 hx1.1), Int.emod_lt_of_pos _ (by exact om_c09ccc3d hx1.2 hx1.1)⟩
  exact tr_iret hZ dX12_drawOf_34 rfl (by decide) (by decide) ⟨v54, rfl, rfl, rfl, rfl, rfl, rfl, hS45, (by exact om_d957d7ef hx1.2 hx1.1 h55 p56.1 p56.2), (fun q0 z0 => by obtain rfl := Option.some.inj (d2.symm.trans z0); rw [e47, c4, show v42.toInt = y39.toInt by exact om_acd7a85a h43]; unfold dw; rw [h40]; congr 1 <;> exact om_9f1951a5 h30 h32 h34 h36), (fun q0 z0 => by obtain rfl := Option.some.inj (d2.symm.trans z0); rw [c4]; unfold dwm; rw [h55]; congr 1; rw [show v42.toInt = y39.toInt by exact om_acd7a85a h43]; unfold dw; rw [h40]; congr 1 <;> exact om_9f1951a5 h30 h32 h34 h36), (fun q0 z0 => by obtain rfl := Option.some.inj ((d2).symm.trans z0); (try rw [c48]); (try rw [c7]); first | done | with_reducible assumption | omega), (fun q0 z0 => by obtain rfl := Option.some.inj ((d2).symm.trans z0); (try rw [c49]); (try rw [c9]); first | done | with_reducible assumption | omega), trivial⟩
def wik_X12_draws : List Nat := [4991]
def wrk_X12_draws : List Nat := []
set_option maxHeartbeats 4000000 in
theorem fk_X12_draws {l : Launch} {T : Nat → Nat} {cn : Nat} {K N : Nat → Nat} {I0 : cz_I} {R0 : cz_R} {L0 : cz_L} {d : Int} (hW0 : Wf T cn K N I0 R0 d)  {a0 : Nat} (ta0 : T a0 = 15) (pre0 : ∀ b1, R0 a0 16 = some b1 → (I0 b1 1).toInt ≤ 5) (nn3 : ∃ b, R0 a0 3 = some b) : ConE l mX12_draws [.ref a0] cn K N I0 R0 L0 (ca_i (fun v cn' K' N' I' R' L' => cn = cn' ∧ K = K' ∧ N = N' ∧ R0 = R' ∧ L0 = L' ∧ St T cn K N d wik_X12_draws wrk_X12_draws I0 R0 I' R0 ∧ (0 ≤ v.toInt ∧ v.toInt ≤ 239) ∧ (∀ b1, R0 a0 16 = some b1 → (I' b1 2).toInt = (dw (dw (I0 b1 2).toInt))) ∧ (∀ b1, R0 a0 16 = some b1 → ∀ b2, R0 a0 3 = some b2 → v.toInt = (dwm (I0 b1 2).toInt (I0 b2 0).toInt)) ∧ (∀ b1, R0 a0 16 = some b1 → (I' b1 0).toInt = (I0 b1 0).toInt) ∧ (∀ b1, R0 a0 16 = some b1 → (I' b1 1).toInt = (I0 b1 1).toInt + 1) ∧ True)) := by
  refine ConE.of (by decide +kernel) rfl (Nat.le_of_ble_eq_true rfl) rfl (fun X hX hZ hE => ?_)
  subst hX
  have hS0 : St T cn K N d wik_X12_draws wrk_X12_draws I0 R0 I0 R0 := St.rf0 hW0
  obtain ⟨a1, d2⟩ := nn3
  have ta1 : T a1 = 14 := hW0.rsN ta0 rfl d2
  obtain ⟨a3, d4, ta3⟩ := rf15_16 hW0 ta0
  obtain ⟨v5, c6⟩ : ∃ v, I0 a3 1 = v := ⟨_, rfl⟩
  have b7 := iv77_1 hS0.1 ta3 (by decide) c6
  have p8 := pre0 _ d4
  rw [c6] at p8
  obtain ⟨v9, c10⟩ : ∃ v, I0 a3 2 = v := ⟨_, rfl⟩
  have b11 := iv77_2 hS0.1 ta3 (by decide) c10
  obtain ⟨v12, c13⟩ : ∃ v, I0 a1 0 = v := ⟨_, rfl⟩
  have b14 := hW0.2.2.2.2.2.1 a0 ta0 _ d2
  rw [c13] at b14
  have b15 := iv14_0 hW0 ta1 c13
  obtain ⟨v16, c17⟩ : ∃ v, I0 a3 0 = v := ⟨_, rfl⟩
  obtain ⟨v18, c19⟩ : ∃ v, I0 a0 19 = v := ⟨_, rfl⟩
  have b20 := iv15_19 hW0 ta0 c19
  obtain ⟨v21, c22⟩ : ∃ v, I0 a0 20 = v := ⟨_, rfl⟩
  have b23 := iv15_20 hW0 ta0 c22
  obtain ⟨a24, d25, ta24⟩ := rf15_17 hW0 ta0
  obtain ⟨a26, d27, ta26⟩ := rf15_18 hW0 ta0
  refine tr_aload_n dX12_draws_0 rfl ?_
  refine tr_aload_n dX12_draws_1 rfl ?_
  refine tr_getR dX12_draws_2 fl12_385 (kR15 hS0.1 ta0) d2 ?_
  refine q_getI dX12_draws_5 fl12_192 (kR14 hS0.1 ta1) c13 ?_
  refine q_callVi hE (M' := mX12_drawOf) (as := [_]) dX12_draws_8 lk12_497 inX12_drawOf seX12_drawOf myX12_drawOf (by decide) ⟨by decide, by decide⟩ rfl (kR15 hS0.1 ta0) (Nat.le_of_ble_eq_true rfl) rfl rfl (by decide) (by decide) (fk_X12_drawOf hS0.1  ta0 (by exact om_78ce1ce9 b14 b15.2)) ?_
  rintro v33 cn' K' N' I28 R29 L30 ⟨rfl, rfl, rfl, rfl, rfl, g31, h34, p35, p36, p37, p38, -⟩
  have hS39 := hS0.tr g31 (by decide +kernel) (by decide +kernel)
  obtain ⟨v40, c41⟩ : ∃ v, I28 a3 2 = v := ⟨_, rfl⟩
  have b42 := iv77_2 hS39.1 ta3 (by decide) c41
  have p43 := p35 _ d4
  clear p35
  rw [c41] at p43
  rw [c10] at p43
  have p44 := p36 _ d4
  clear p36
  rw [c10] at p44
  obtain ⟨v45, c46⟩ : ∃ v, I28 a3 0 = v := ⟨_, rfl⟩
  have p47 := p37 _ d4
  clear p37
  rw [c46] at p47
  rw [c17] at p47
  obtain ⟨v48, c49⟩ : ∃ v, I28 a3 1 = v := ⟨_, rfl⟩
  have b50 := iv77_1 hS39.1 ta3 (by decide) c49
  have p51 := p38 _ d4
  clear p38
  rw [c49] at p51
  rw [c6] at p51
  refine tr_istore_n dX12_draws_11 (by decide) (by decide) ?_
  refine tr_iload_n dX12_draws_12 rfl ?_
  refine q_iconst dX12_draws_13 (by decide) ?_
  intro v52 h53
  refine q_iaddE dX12_draws_14 (by intro j1 j2 j3 j4; exact om_30275603 h34.2 h34.1 p44 h53) ?_
  intro v54 h55
  refine tr_aload_n dX12_draws_15 rfl ?_
  refine q_bipush dX12_draws_16 (by decide +kernel) ?_
  intro v56 h57
  refine q_callVi hE (M' := mX12_drawOf) (as := [_]) dX12_draws_18 lk12_497 inX12_drawOf seX12_drawOf myX12_drawOf (by decide) ⟨by decide, by decide⟩ rfl (kR15 hS39.1 ta0) (Nat.le_of_ble_eq_true rfl) rfl rfl (by decide) (by decide) (fk_X12_drawOf hS39.1  ta0 (by exact om_4bc0c541 h57)) ?_
  rintro v63 cn' K' N' I58 R59 L60 ⟨rfl, rfl, rfl, rfl, rfl, g61, h64, p65, p66, p67, p68, -⟩
  have hS69 := hS39.tr g61 (by decide +kernel) (by decide +kernel)
  obtain ⟨v70, c71⟩ : ∃ v, I58 a3 2 = v := ⟨_, rfl⟩
  have b72 := iv77_2 hS69.1 ta3 (by decide) c71
  have p73 := p65 _ d4
  clear p65
  rw [c71] at p73
  rw [c41] at p73
  have p74 := p66 _ d4
  clear p66
  rw [c41] at p74
  obtain ⟨v75, c76⟩ : ∃ v, I58 a3 0 = v := ⟨_, rfl⟩
  have p77 := p67 _ d4
  clear p67
  rw [c76] at p77
  rw [c46] at p77
  obtain ⟨v78, c79⟩ : ∃ v, I58 a3 1 = v := ⟨_, rfl⟩
  have b80 := iv77_1 hS69.1 ta3 (by decide) c79
  have p81 := p68 _ d4
  clear p68
  rw [c79] at p81
  rw [c49] at p81
  refine q_iaddE dX12_draws_21 (by intro j1 j2 j3 j4; exact om_df2b09c8 h34.2 h34.1 p44 h53 h55 h64.2 h64.1 p74) ?_
  intro v82 h83
  refine tr_istore_n dX12_draws_22 (by decide) (by decide) ?_
  refine tr_aload_n dX12_draws_23 rfl ?_
  refine tr_iload_n dX12_draws_24 rfl ?_
  refine tr_iload_n dX12_draws_25 rfl ?_
  refine tr_aload_n dX12_draws_26 rfl ?_
  refine tr_getR dX12_draws_27 fl12_385 (kR15 hS69.1 ta0) d2 ?_
  refine q_getI dX12_draws_30 fl12_192 (kR14 hS69.1 ta1) ((hS69.cell ta1 (by decide +kernel)).trans c13) ?_
  refine q_icmp_ge 40 dX12_draws_33 (by decide) (fun h84 => ?_) (fun h84 => ?_)
  · skip
    refine tr_aload_n dX12_draws_40 rfl ?_
    refine tr_getR dX12_draws_41 fl12_385 (kR15 hS69.1 ta0) d2 ?_
    refine q_getI dX12_draws_44 fl12_192 (kR14 hS69.1 ta1) ((hS69.cell ta1 (by decide +kernel)).trans c13) ?_
    refine q_callVv hE (M' := mX12_comes) (as := [_, _]) dX12_draws_47 lk12_500 inX12_comes seX12_comes myX12_comes (by decide) ⟨by decide, by decide⟩ rfl (kR15 hS69.1 ta0) (Nat.le_of_ble_eq_true rfl) rfl rfl (by decide) (by decide) (fk_X12_comes hS69.1  ta0 (by exact om_c496e06d h34.2 h34.1 p44 h53 h55 p74 h83) (by exact om_d956ef70 b15) (fun q0 z0 => by obtain rfl := Option.some.inj ((d4).symm.trans z0); (try rw [c79]); first | done | with_reducible assumption | exact om_d7a10950 b7.2 b7.1 p8 p51 p81)) ?_
    rintro cn' K' N' I85 R86 L87 ⟨rfl, rfl, rfl, rfl, rfl, g88, p91, p92, p93, -⟩
    have hS94 := hS69.tr g88 (by decide +kernel) (by decide +kernel)
    obtain ⟨v95, c96⟩ : ∃ v, I85 a3 1 = v := ⟨_, rfl⟩
    have b97 := iv77_1 hS94.1 ta3 (by decide) c96
    have p98 := p91 _ d4
    clear p91
    rw [c96] at p98
    rw [c79] at p98
    obtain ⟨v99, c100⟩ : ∃ v, I85 a3 0 = v := ⟨_, rfl⟩
    have p101 := p92 _ d4
    clear p92
    rw [c100] at p101
    rw [c76] at p101
    obtain ⟨v102, c103⟩ : ∃ v, I85 a3 2 = v := ⟨_, rfl⟩
    have b104 := iv77_2 hS94.1 ta3 (by decide) c103
    have p105 := p93 _ d4
    clear p93
    rw [c103] at p105
    rw [c71] at p105
    refine tr_iload_n dX12_draws_50 rfl ?_
    exact tr_iret hZ dX12_draws_51 rfl (by decide) (by decide) ⟨v33, rfl, rfl, rfl, rfl, rfl, rfl, hS94, (by exact om_87537644 h34), (fun q0 z0 => by obtain rfl := Option.some.inj ((d4).symm.trans z0); rw [c103, c10]; have z : v40.toInt = dw v9.toInt := (by exact om_acd7a85a p43); rw [← z]; exact om_9fa72578 p73 p105), (fun q0 z0 => fun q1 z1 => by obtain rfl := Option.some.inj ((d4).symm.trans z0); obtain rfl := Option.some.inj ((d2).symm.trans z1); (try rw [c10]); (try rw [c13]); first | done | with_reducible assumption | omega), (fun q0 z0 => by obtain rfl := Option.some.inj ((d4).symm.trans z0); (try rw [c100]); (try rw [c17]); first | done | with_reducible assumption | exact om_1c22ab7e p47 p77 p101), (fun q0 z0 => by obtain rfl := Option.some.inj ((d4).symm.trans z0); (try rw [c96]); (try rw [c6]); first | done | with_reducible assumption | exact om_b7af751d p51 p81 p98), trivial⟩
  · skip
    refine tr_iload_n dX12_draws_36 rfl ?_
    refine tr_goto 47 dX12_draws_37 (by decide) ?_
    refine q_callVv hE (M' := mX12_comes) (as := [_, _]) dX12_draws_47 lk12_500 inX12_comes seX12_comes myX12_comes (by decide) ⟨by decide, by decide⟩ rfl (kR15 hS69.1 ta0) (Nat.le_of_ble_eq_true rfl) rfl rfl (by decide) (by decide) (fk_X12_comes hS69.1  ta0 (by exact om_c496e06d h34.2 h34.1 p44 h53 h55 p74 h83) (by exact om_f8508007 b14 b15.2 h34.2 h34.1 p44 h53 h55 h64.2 h64.1 p74 h83 h84) (fun q0 z0 => by obtain rfl := Option.some.inj ((d4).symm.trans z0); (try rw [c79]); first | done | with_reducible assumption | exact om_d7a10950 b7.2 b7.1 p8 p51 p81)) ?_
    rintro cn' K' N' I106 R107 L108 ⟨rfl, rfl, rfl, rfl, rfl, g109, p112, p113, p114, -⟩
    have hS115 := hS69.tr g109 (by decide +kernel) (by decide +kernel)
    obtain ⟨v116, c117⟩ : ∃ v, I106 a3 1 = v := ⟨_, rfl⟩
    have b118 := iv77_1 hS115.1 ta3 (by decide) c117
    have p119 := p112 _ d4
    clear p112
    rw [c117] at p119
    rw [c79] at p119
    obtain ⟨v120, c121⟩ : ∃ v, I106 a3 0 = v := ⟨_, rfl⟩
    have p122 := p113 _ d4
    clear p113
    rw [c121] at p122
    rw [c76] at p122
    obtain ⟨v123, c124⟩ : ∃ v, I106 a3 2 = v := ⟨_, rfl⟩
    have b125 := iv77_2 hS115.1 ta3 (by decide) c124
    have p126 := p114 _ d4
    clear p114
    rw [c124] at p126
    rw [c71] at p126
    refine tr_iload_n dX12_draws_50 rfl ?_
    exact tr_iret hZ dX12_draws_51 rfl (by decide) (by decide) ⟨v33, rfl, rfl, rfl, rfl, rfl, rfl, hS115, (by exact om_87537644 h34), (fun q0 z0 => by obtain rfl := Option.some.inj ((d4).symm.trans z0); rw [c124, c10]; have z : v40.toInt = dw v9.toInt := (by exact om_acd7a85a p43); rw [← z]; exact om_9fa72578 p73 p126), (fun q0 z0 => fun q1 z1 => by obtain rfl := Option.some.inj ((d4).symm.trans z0); obtain rfl := Option.some.inj ((d2).symm.trans z1); (try rw [c10]); (try rw [c13]); first | done | with_reducible assumption | omega), (fun q0 z0 => by obtain rfl := Option.some.inj ((d4).symm.trans z0); (try rw [c121]); (try rw [c17]); first | done | with_reducible assumption | exact om_1c22ab7e p47 p77 p122), (fun q0 z0 => by obtain rfl := Option.some.inj ((d4).symm.trans z0); (try rw [c117]); (try rw [c6]); first | done | with_reducible assumption | exact om_b7af751d p51 p81 p119), trivial⟩
def wik_X12_draw : List Nat := [960, 961, 962, 979, 4991, 5055]
def wrk_X12_draw : List Nat := []
def Cs_X12_draw (T : Nat → Nat) (I0 : cz_I) (R0 : cz_R) (a0 : Nat) (v : Int32) (I' : cz_I) (R' : cz_R) : Prop :=
  ((v.toInt = -1) ∧ (R0 a0 3 = none) ∧ (SmM T I0 I' a0) ∧ True) ∨
  ((∀ b1, R0 a0 16 = some b1 → (I0 b1 1).toInt = 6) ∧ (v.toInt = -1) ∧ (∃ b, R0 a0 3 = some b) ∧ (SmM T I0 I' a0) ∧ True) ∨
  ((((I0 a0 19).toInt < 12 → (I' a0 19).toInt = (I0 a0 19).toInt + 1)) ∧ (((I0 a0 19).toInt ≥ 12 → (I' a0 19).toInt = 12)) ∧ (∀ b1, R0 a0 16 = some b1 → (I0 b1 1).toInt ≤ 5) ∧ (∀ b1, R0 a0 16 = some b1 → (I' b1 1).toInt = (I0 b1 1).toInt + 1) ∧ (∀ b1, R0 a0 16 = some b1 → (I' b1 2).toInt = (dw (dw (I0 b1 2).toInt))) ∧ (∀ b1, R0 a0 16 = some b1 → ∀ b2, R0 a0 3 = some b2 → v.toInt = (dwm (I0 b1 2).toInt (I0 b2 0).toInt)) ∧ (∀ b1, R0 a0 16 = some b1 → (I' b1 0).toInt = (I0 b1 0).toInt) ∧ (∃ b, R0 a0 3 = some b) ∧ (∀ w p, R0 a0 16 = some w → R0 a0 17 = some p → KeM I0 I' w p (I0 a0 19).toInt) ∧ True)
set_option maxHeartbeats 4000000 in
theorem fk_X12_draw {l : Launch} {T : Nat → Nat} {cn : Nat} {K N : Nat → Nat} {I0 : cz_I} {R0 : cz_R} {L0 : cz_L} {d : Int} (hW0 : Wf T cn K N I0 R0 d)  {a0 : Nat} (ta0 : T a0 = 15) : ConE l mX12_draw [.ref a0] cn K N I0 R0 L0 (ca_i (fun v cn' K' N' I' R' L' => cn = cn' ∧ K = K' ∧ N = N' ∧ R0 = R' ∧ L0 = L' ∧ St T cn K N d wik_X12_draw wrk_X12_draw I0 R0 I' R0 ∧ Cs_X12_draw T I0 R0 a0 v I' R0 ∧ True)) := by
  refine ConE.of (by decide +kernel) rfl (Nat.le_of_ble_eq_true rfl) rfl (fun X hX hZ hE => ?_)
  subst hX
  have hS0 : St T cn K N d wik_X12_draw wrk_X12_draw I0 R0 I0 R0 := St.rf0 hW0
  obtain ⟨a1, d2, ta1⟩ := rf15_16 hW0 ta0
  obtain ⟨v3, c4⟩ : ∃ v, I0 a1 1 = v := ⟨_, rfl⟩
  have b5 := iv77_1 hS0.1 ta1 (by decide) c4
  obtain ⟨v6, c7⟩ : ∃ v, I0 a0 19 = v := ⟨_, rfl⟩
  have b8 := iv15_19 hS0.1 ta0 c7
  obtain ⟨v9, c10⟩ : ∃ v, I0 a1 2 = v := ⟨_, rfl⟩
  have b11 := iv77_2 hS0.1 ta1 (by decide) c10
  obtain ⟨v12, c13⟩ : ∃ v, I0 a1 0 = v := ⟨_, rfl⟩
  obtain ⟨v14, c15⟩ : ∃ v, I0 a0 20 = v := ⟨_, rfl⟩
  have b16 := iv15_20 hW0 ta0 c15
  obtain ⟨a17, d18, ta17⟩ := rf15_17 hW0 ta0
  obtain ⟨a19, d20, ta19⟩ := rf15_18 hW0 ta0
  rcases rf15_3 hW0 ta0 with d22 | ⟨a21, d22, ta21⟩
  · skip
    refine tr_aload_n dX12_draw_0 rfl ?_
    refine q_iconst dX12_draw_1 (by decide) ?_
    intro v23 h24
    refine q_putI dX12_draw_2 fl12_70 (kR15 hS0.1 ta0) (Or.inl rfl) hS0 ta0 (iokF rfl) rfl (by decide +kernel) ?_
    intro I25 hS26 e27 f28
    have c29 : I25 a1 1 = v3 := (f28 _ _ (fun q => absurd q.2 (by decide))).trans c4
    have c30 : I25 a0 19 = v6 := (f28 _ _ (fun q => absurd q.2 (by decide))).trans c7
    have c31 : I25 a1 2 = v9 := (f28 _ _ (fun q => absurd q.2 (by decide))).trans c10
    have c32 : I25 a1 0 = v12 := (f28 _ _ (fun q => by have z := ta1; rw [q.1, ta0] at z; exact absurd z (by decide))).trans c13
    refine tr_aload_n dX12_draw_5 rfl ?_
    refine tr_getN dX12_draw_6 fl12_385 (kR15 hS26.1 ta0) d22 ?_
    refine tr_ifnonnullN dX12_draw_9 ?_
    refine tr_aload_n dX12_draw_12 rfl ?_
    refine q_iconst dX12_draw_13 (by decide) ?_
    intro v33 h34
    refine q_callVi hE (M' := mX12_refused) (as := [_]) dX12_draw_14 lk12_76 inX12_refused seX12_refused myX12_refused (by decide) ⟨by decide, by decide⟩ rfl (kR15 hS26.1 ta0) (Nat.le_of_ble_eq_true rfl) rfl rfl (by decide) (by decide) (fk_X12_refused hS26.1  ta0) ?_
    rintro v40 cn' K' N' I35 R36 L37 ⟨rfl, rfl, rfl, rfl, rfl, g38, p41, p42, p43, -⟩
    have hS44 := hS26.tr g38 (by decide +kernel) (by decide +kernel)
    have c45 : I35 a1 1 = v3 := (g38.cell ta1 (by decide +kernel)).trans c29
    have c46 : I35 a0 19 = v6 := (g38.cell ta0 (by decide +kernel)).trans c30
    have c47 : I35 a1 2 = v9 := (g38.cell ta1 (by decide +kernel)).trans c31
    have c48 : I35 a1 0 = v12 := (g38.cell ta1 (by decide +kernel)).trans c32
    have c49 : I35 a0 0 = v23 := (g38.cell ta0 (by decide +kernel)).trans e27
    obtain ⟨v50, c51⟩ : ∃ v, I35 a0 1 = v := ⟨_, rfl⟩
    rw [c51] at p42
    obtain ⟨v52, c53⟩ : ∃ v, I35 a0 2 = v := ⟨_, rfl⟩
    rw [c53] at p43
    exact tr_iret hZ dX12_draw_17 rfl (by decide) (by decide) ⟨v40, rfl, rfl, rfl, rfl, rfl, rfl, hS44, (Or.inl ⟨(by first | done | with_reducible assumption | omega), d22, ⟨(c46).trans (c7).symm, (((hS44.cell ta0 (by decide +kernel)).trans c15)).trans (c15).symm, fun a j h => by rcases h with h | h | h; exact ((g38.cell h (wm_no (by decide +kernel))).trans (f28 _ _ (fun q => by have z := h; rw [q.1, ta0] at z; exact absurd z (by decide)))); exact ((g38.cell h (wm_no (by decide +kernel))).trans (f28 _ _ (fun q => by have z := h; rw [q.1, ta0] at z; exact absurd z (by decide)))); exact ((g38.cell h (wm_no (by decide +kernel))).trans (f28 _ _ (fun q => by have z := h; rw [q.1, ta0] at z; exact absurd z (by decide))))⟩, trivial⟩), trivial⟩
  · skip
    refine tr_aload_n dX12_draw_0 rfl ?_
    refine q_iconst dX12_draw_1 (by decide) ?_
    intro v54 h55
    refine q_putI dX12_draw_2 fl12_70 (kR15 hS0.1 ta0) (Or.inl rfl) hS0 ta0 (iokF rfl) rfl (by decide +kernel) ?_
    intro I56 hS57 e58 f59
    have c60 : I56 a1 1 = v3 := (f59 _ _ (fun q => absurd q.2 (by decide))).trans c4
    have c61 : I56 a0 19 = v6 := (f59 _ _ (fun q => absurd q.2 (by decide))).trans c7
    have c62 : I56 a1 2 = v9 := (f59 _ _ (fun q => absurd q.2 (by decide))).trans c10
    have c63 : I56 a1 0 = v12 := (f59 _ _ (fun q => by have z := ta1; rw [q.1, ta0] at z; exact absurd z (by decide))).trans c13
    refine tr_aload_n dX12_draw_5 rfl ?_
    refine tr_getR dX12_draw_6 fl12_385 (kR15 hS57.1 ta0) d22 ?_
    refine tr_ifnonnull 18 dX12_draw_9 (by decide) ?_
    refine tr_aload_n dX12_draw_18 rfl ?_
    refine tr_getR dX12_draw_19 fl12_17 (kR15 hS57.1 ta0) d2 ?_
    refine q_iconst dX12_draw_22 (by decide) ?_
    intro v64 h65
    refine q_iald dX12_draw_23 (kR77 hS57.1 ta1) (ti_in (nR77 hS57.1 ta1) (by exact om_f9079521 h65) (by exact om_73248752 h65)) ?_
    intro v66 c67
    rw [show v64.toNatClampNeg = 1 from ti_cl (by exact om_21c44602 h65)] at c67
    obtain rfl : v3 = v66 := (c60).symm.trans c67
    refine q_bipush dX12_draw_24 (by decide +kernel) ?_
    intro v68 h69
    refine q_icmp_ne 35 dX12_draw_26 (by decide) (fun h70 => ?_) (fun h70 => ?_)
    · skip
      refine tr_aload_n dX12_draw_35 rfl ?_
      refine q_callVv hE (M' := mX12_keeps) (as := []) dX12_draw_36 lk12_510 inX12_keeps seX12_keeps myX12_keeps (by decide) ⟨by decide, by decide⟩ rfl (kR15 hS57.1 ta0) (Nat.le_of_ble_eq_true rfl) rfl rfl (by decide) (by decide) (fk_X12_keeps hS57.1  ta0) ?_
      rintro cn' K' N' I71 R72 L73 ⟨rfl, rfl, rfl, rfl, rfl, g74, p77, p78, rp79, -⟩
      have hS80 := hS57.tr g74 (by decide +kernel) (by decide +kernel)
      have c81 : I71 a1 1 = v3 := (g74.cell ta1 (by decide +kernel)).trans c60
      have c82 : I71 a1 2 = v9 := (g74.cell ta1 (by decide +kernel)).trans c62
      have c83 : I71 a1 0 = v12 := (g74.cell ta1 (by decide +kernel)).trans c63
      have c84 : I71 a0 0 = v54 := (g74.cell ta0 (by decide +kernel)).trans e58
      obtain ⟨v85, c86⟩ : ∃ v, I71 a0 19 = v := ⟨_, rfl⟩
      have b87 := iv15_19 hS80.1 ta0 c86
      rw [c61] at p77
      rw [c86] at p77
      rw [c61] at p78
      rw [c86] at p78
      refine tr_aload_n dX12_draw_39 rfl ?_
      refine tr_aload_n dX12_draw_40 rfl ?_
      obtain ⟨v88, c89⟩ : ∃ v, I0 a21 0 = v := ⟨_, rfl⟩
      have b90 := hW0.2.2.2.2.2.1 a0 ta0 _ d22
      rw [c89] at b90
      have b91 := iv14_0 hW0 ta21 c89
      refine q_callVi hE (M' := mX12_draws) (as := []) dX12_draw_41 lk12_504 inX12_draws seX12_draws myX12_draws (by decide) ⟨by decide, by decide⟩ rfl (kR15 hS80.1 ta0) (Nat.le_of_ble_eq_true rfl) rfl rfl (by decide) (by decide) (fk_X12_draws hS80.1  ta0 (fun q0 z0 => by obtain rfl := Option.some.inj ((d2).symm.trans z0); (try rw [c81]); first | done | with_reducible assumption | exact om_9eea1bb6 b5.2 b5.1 b8.2 b8.1 h69 h70 p78 p77) ⟨_, d22⟩) ?_
      rintro v97 cn' K' N' I92 R93 L94 ⟨rfl, rfl, rfl, rfl, rfl, g95, h98, p99, p100, p101, p102, -⟩
      have hS103 := hS80.tr g95 (by decide +kernel) (by decide +kernel)
      have c104 : I92 a0 0 = v54 := (g95.cell ta0 (by decide +kernel)).trans c84
      have c105 : I92 a0 19 = v85 := (g95.cell ta0 (by decide +kernel)).trans c86
      obtain ⟨v106, c107⟩ : ∃ v, I92 a1 2 = v := ⟨_, rfl⟩
      have b108 := iv77_2 hS103.1 ta1 (by decide) c107
      have p109 := p99 _ d2
      clear p99
      rw [c107] at p109
      rw [c82] at p109
      have p110 := p100 _ d2 _ d22
      clear p100
      rw [c82] at p110
      rw [((hS80.cell ta21 (by decide +kernel)).trans c89)] at p110
      obtain ⟨v111, c112⟩ : ∃ v, I92 a1 0 = v := ⟨_, rfl⟩
      have p113 := p101 _ d2
      clear p101
      rw [c112] at p113
      rw [c83] at p113
      obtain ⟨v114, c115⟩ : ∃ v, I92 a1 1 = v := ⟨_, rfl⟩
      have b116 := iv77_1 hS103.1 ta1 (by decide) c115
      have p117 := p102 _ d2
      clear p102
      rw [c115] at p117
      rw [c81] at p117
      refine q_callVi hE (M' := mX12_good) (as := [_]) dX12_draw_44 lk12_81 inX12_good seX12_good myX12_good (by decide) ⟨by decide, by decide⟩ rfl (kR15 hS103.1 ta0) (Nat.le_of_ble_eq_true rfl) rfl rfl (by decide) (by decide) (fk_X12_good hS103.1  ta0) ?_
      rintro v123 cn' K' N' I118 R119 L120 ⟨rfl, rfl, rfl, rfl, rfl, g121, p124, p125, p126, -⟩
      have hS127 := hS103.tr g121 (by decide +kernel) (by decide +kernel)
      have c128 : I118 a0 0 = v54 := (g121.cell ta0 (by decide +kernel)).trans c104
      have c129 : I118 a0 19 = v85 := (g121.cell ta0 (by decide +kernel)).trans c105
      have c130 : I118 a1 2 = v106 := (g121.cell ta1 (by decide +kernel)).trans c107
      have c131 : I118 a1 0 = v111 := (g121.cell ta1 (by decide +kernel)).trans c112
      have c132 : I118 a1 1 = v114 := (g121.cell ta1 (by decide +kernel)).trans c115
      obtain ⟨v133, c134⟩ : ∃ v, I118 a0 1 = v := ⟨_, rfl⟩
      rw [c134] at p125
      obtain ⟨v135, c136⟩ : ∃ v, I118 a0 2 = v := ⟨_, rfl⟩
      rw [c136] at p126
      exact tr_iret hZ dX12_draw_47 rfl (by decide) (by decide) ⟨v123, rfl, rfl, rfl, rfl, rfl, rfl, hS127, (Or.inr (Or.inr (⟨(by (try rw [c7]); (try rw [c129]); first | done | with_reducible assumption | omega), (by (try rw [c7]); (try rw [c129]); first | done | with_reducible assumption | omega), (fun q0 z0 => by obtain rfl := Option.some.inj ((d2).symm.trans z0); (try rw [c4]); first | done | with_reducible assumption | exact om_92d03419 b5.2 b5.1 b116.2 b116.1 p117), (fun q0 z0 => by obtain rfl := Option.some.inj ((d2).symm.trans z0); (try rw [c132]); (try rw [c4]); first | done | with_reducible assumption | omega), (fun q0 z0 => by obtain rfl := Option.some.inj ((d2).symm.trans z0); (try rw [c130]); (try rw [c10]); first | done | with_reducible assumption | omega), (fun q0 z0 => fun q1 z1 => by obtain rfl := Option.some.inj ((d2).symm.trans z0); obtain rfl := Option.some.inj ((d22).symm.trans z1); (try rw [c10]); (try rw [c89]); first | done | with_reducible assumption | exact om_9fa72578 p110 p124), (fun q0 z0 => by obtain rfl := Option.some.inj ((d2).symm.trans z0); (try rw [c131]); (try rw [c13]); first | done | with_reducible assumption | omega), ⟨_, d22⟩, (fun w p hw hp => by obtain rfl := Option.some.inj (d2.symm.trans hw); obtain rfl := Option.some.inj (d18.symm.trans hp); have z := rp79 _ _ d2 d18; rw [c61] at z; rw [c7]; exact KeM.kp z (fun k => (f59 _ _ (fun q => by have z := ta17; rw [q.1, ta0] at z; exact absurd z (by decide)))) (fun k => (f59 _ _ (fun q => by have z := ta1; rw [q.1, ta0] at z; exact absurd z (by decide)))) (fun k => ((g121.cell ta17 (wm_no (by decide +kernel))).trans (g95.cell ta17 (wm_no (by decide +kernel)))))), trivial⟩))), trivial⟩
    · skip
      refine tr_aload_n dX12_draw_29 rfl ?_
      refine q_iconst dX12_draw_30 (by decide) ?_
      intro v137 h138
      refine q_callVi hE (M' := mX12_refused) (as := [_]) dX12_draw_31 lk12_76 inX12_refused seX12_refused myX12_refused (by decide) ⟨by decide, by decide⟩ rfl (kR15 hS57.1 ta0) (Nat.le_of_ble_eq_true rfl) rfl rfl (by decide) (by decide) (fk_X12_refused hS57.1  ta0) ?_
      rintro v144 cn' K' N' I139 R140 L141 ⟨rfl, rfl, rfl, rfl, rfl, g142, p145, p146, p147, -⟩
      have hS148 := hS57.tr g142 (by decide +kernel) (by decide +kernel)
      have c149 : I139 a1 1 = v3 := (g142.cell ta1 (by decide +kernel)).trans c60
      have c150 : I139 a0 19 = v6 := (g142.cell ta0 (by decide +kernel)).trans c61
      have c151 : I139 a1 2 = v9 := (g142.cell ta1 (by decide +kernel)).trans c62
      have c152 : I139 a1 0 = v12 := (g142.cell ta1 (by decide +kernel)).trans c63
      have c153 : I139 a0 0 = v54 := (g142.cell ta0 (by decide +kernel)).trans e58
      obtain ⟨v154, c155⟩ : ∃ v, I139 a0 1 = v := ⟨_, rfl⟩
      rw [c155] at p146
      obtain ⟨v156, c157⟩ : ∃ v, I139 a0 2 = v := ⟨_, rfl⟩
      rw [c157] at p147
      obtain ⟨v158, c159⟩ : ∃ v, I0 a21 0 = v := ⟨_, rfl⟩
      have b160 := hW0.2.2.2.2.2.1 a0 ta0 _ d22
      rw [c159] at b160
      have b161 := iv14_0 hW0 ta21 c159
      exact tr_iret hZ dX12_draw_34 rfl (by decide) (by decide) ⟨v144, rfl, rfl, rfl, rfl, rfl, rfl, hS148, (Or.inr (Or.inl ⟨(fun q0 z0 => by obtain rfl := Option.some.inj ((d2).symm.trans z0); (try rw [c4]); first | done | with_reducible assumption | exact om_44618ec2 h69 h70), (by first | done | with_reducible assumption | omega), ⟨_, d22⟩, ⟨(c150).trans (c7).symm, (((hS148.cell ta0 (by decide +kernel)).trans c15)).trans (c15).symm, fun a j h => by rcases h with h | h | h; exact ((g142.cell h (wm_no (by decide +kernel))).trans (f59 _ _ (fun q => by have z := h; rw [q.1, ta0] at z; exact absurd z (by decide)))); exact ((g142.cell h (wm_no (by decide +kernel))).trans (f59 _ _ (fun q => by have z := h; rw [q.1, ta0] at z; exact absurd z (by decide)))); exact ((g142.cell h (wm_no (by decide +kernel))).trans (f59 _ _ (fun q => by have z := h; rw [q.1, ta0] at z; exact absurd z (by decide))))⟩, trivial⟩)), trivial⟩
def wik_X12_lift : List Nat := [960, 961, 962, 979, 4991, 5055]
def wrk_X12_lift : List Nat := []
def Cs_X12_lift (T : Nat → Nat) (I0 : cz_I) (R0 : cz_R) (a0 : Nat) (v : Int32) (I' : cz_I) (R' : cz_R) : Prop :=
  ((v.toInt = 0) ∧ (R0 a0 3 = none) ∧ (SmM T I0 I' a0) ∧ True) ∨
  ((∀ b1, R0 a0 16 = some b1 → (I0 b1 1).toInt = 0) ∧ (v.toInt = 0) ∧ (∃ b, R0 a0 3 = some b) ∧ (SmM T I0 I' a0) ∧ True) ∨
  ((((I0 a0 19).toInt < 12 → (I' a0 19).toInt = (I0 a0 19).toInt + 1)) ∧ (((I0 a0 19).toInt ≥ 12 → (I' a0 19).toInt = 12)) ∧ (∀ b1, R0 a0 16 = some b1 → (I0 b1 1).toInt ≥ 1) ∧ (v.toInt = 1) ∧ (∀ b1, R0 a0 16 = some b1 → (I' b1 1).toInt = (I0 b1 1).toInt - 1) ∧ (∀ b1, R0 a0 16 = some b1 → (I' b1 0).toInt = (I0 b1 0).toInt) ∧ (∀ b1, R0 a0 16 = some b1 → (I' b1 2).toInt = (I0 b1 2).toInt) ∧ (∃ b, R0 a0 3 = some b) ∧ (∀ w p, R0 a0 16 = some w → R0 a0 17 = some p → KeM I0 I' w p (I0 a0 19).toInt) ∧ True)
set_option maxHeartbeats 4000000 in
theorem fk_X12_lift {l : Launch} {T : Nat → Nat} {cn : Nat} {K N : Nat → Nat} {I0 : cz_I} {R0 : cz_R} {L0 : cz_L} {d : Int} (hW0 : Wf T cn K N I0 R0 d)  {a0 : Nat} (ta0 : T a0 = 15) : ConE l mX12_lift [.ref a0] cn K N I0 R0 L0 (ca_i (fun v cn' K' N' I' R' L' => cn = cn' ∧ K = K' ∧ N = N' ∧ R0 = R' ∧ L0 = L' ∧ St T cn K N d wik_X12_lift wrk_X12_lift I0 R0 I' R0 ∧ (0 ≤ v.toInt ∧ v.toInt ≤ 1) ∧ Cs_X12_lift T I0 R0 a0 v I' R0 ∧ True)) := by
  refine ConE.of (by decide +kernel) rfl (Nat.le_of_ble_eq_true rfl) rfl (fun X hX hZ hE => ?_)
  subst hX
  have hS0 : St T cn K N d wik_X12_lift wrk_X12_lift I0 R0 I0 R0 := St.rf0 hW0
  obtain ⟨a1, d2, ta1⟩ := rf15_16 hW0 ta0
  obtain ⟨v3, c4⟩ : ∃ v, I0 a1 1 = v := ⟨_, rfl⟩
  have b5 := iv77_1 hS0.1 ta1 (by decide) c4
  obtain ⟨v6, c7⟩ : ∃ v, I0 a0 19 = v := ⟨_, rfl⟩
  have b8 := iv15_19 hS0.1 ta0 c7
  obtain ⟨v9, c10⟩ : ∃ v, I0 a1 0 = v := ⟨_, rfl⟩
  obtain ⟨v11, c12⟩ : ∃ v, I0 a1 2 = v := ⟨_, rfl⟩
  have b13 := iv77_2 hS0.1 ta1 (by decide) c12
  obtain ⟨v14, c15⟩ : ∃ v, I0 a0 20 = v := ⟨_, rfl⟩
  have b16 := iv15_20 hW0 ta0 c15
  obtain ⟨a17, d18, ta17⟩ := rf15_17 hW0 ta0
  obtain ⟨a19, d20, ta19⟩ := rf15_18 hW0 ta0
  rcases rf15_3 hW0 ta0 with d22 | ⟨a21, d22, ta21⟩
  · skip
    refine tr_aload_n dX12_lift_0 rfl ?_
    refine q_iconst dX12_lift_1 (by decide) ?_
    intro v23 h24
    refine q_putI dX12_lift_2 fl12_70 (kR15 hS0.1 ta0) (Or.inl rfl) hS0 ta0 (iokF rfl) rfl (by decide +kernel) ?_
    intro I25 hS26 e27 f28
    have c29 : I25 a1 1 = v3 := (f28 _ _ (fun q => absurd q.2 (by decide))).trans c4
    have c30 : I25 a0 19 = v6 := (f28 _ _ (fun q => absurd q.2 (by decide))).trans c7
    have c31 : I25 a1 0 = v9 := (f28 _ _ (fun q => by have z := ta1; rw [q.1, ta0] at z; exact absurd z (by decide))).trans c10
    have c32 : I25 a1 2 = v11 := (f28 _ _ (fun q => absurd q.2 (by decide))).trans c12
    refine tr_aload_n dX12_lift_5 rfl ?_
    refine tr_getN dX12_lift_6 fl12_385 (kR15 hS26.1 ta0) d22 ?_
    refine tr_ifnullN 21 dX12_lift_9 (by decide) ?_
    refine tr_aload_n dX12_lift_21 rfl ?_
    refine q_bipush dX12_lift_22 (by decide +kernel) ?_
    intro v33 h34
    refine q_callVi hE (M' := mX12_denied) (as := [_]) dX12_lift_24 lk12_507 inX12_denied seX12_denied myX12_denied (by decide) ⟨by decide, by decide⟩ rfl (kR15 hS26.1 ta0) (Nat.le_of_ble_eq_true rfl) rfl rfl (by decide) (by decide) (fk_X12_denied hS26.1  ta0) ?_
    rintro v40 cn' K' N' I35 R36 L37 ⟨rfl, rfl, rfl, rfl, rfl, g38, h41, p42, -⟩
    have hS43 := hS26.tr g38 (by decide +kernel) (by decide +kernel)
    have c44 : I35 a1 1 = v3 := (g38.cell ta1 (by decide +kernel)).trans c29
    have c45 : I35 a0 19 = v6 := (g38.cell ta0 (by decide +kernel)).trans c30
    have c46 : I35 a1 0 = v9 := (g38.cell ta1 (by decide +kernel)).trans c31
    have c47 : I35 a1 2 = v11 := (g38.cell ta1 (by decide +kernel)).trans c32
    have c48 : I35 a0 0 = v23 := (g38.cell ta0 (by decide +kernel)).trans e27
    exact tr_zret hZ dX12_lift_27 rfl (ti_b01 (by exact om_d99fa9e4 p42) (by exact om_d3de7ec9 p42)) (by decide) (by decide) ⟨v40, rfl, rfl, rfl, rfl, rfl, rfl, hS43, (by exact om_be53a44c h41), (Or.inl ⟨(by first | done | with_reducible assumption | omega), d22, ⟨(c45).trans (c7).symm, (((hS43.cell ta0 (by decide +kernel)).trans c15)).trans (c15).symm, fun a j h => by rcases h with h | h | h; exact ((g38.cell h (wm_no (by decide +kernel))).trans (f28 _ _ (fun q => by have z := h; rw [q.1, ta0] at z; exact absurd z (by decide)))); exact ((g38.cell h (wm_no (by decide +kernel))).trans (f28 _ _ (fun q => by have z := h; rw [q.1, ta0] at z; exact absurd z (by decide)))); exact ((g38.cell h (wm_no (by decide +kernel))).trans (f28 _ _ (fun q => by have z := h; rw [q.1, ta0] at z; exact absurd z (by decide))))⟩, trivial⟩), trivial⟩
  · skip
    refine tr_aload_n dX12_lift_0 rfl ?_
    refine q_iconst dX12_lift_1 (by decide) ?_
    intro v49 h50
    refine q_putI dX12_lift_2 fl12_70 (kR15 hS0.1 ta0) (Or.inl rfl) hS0 ta0 (iokF rfl) rfl (by decide +kernel) ?_
    intro I51 hS52 e53 f54
    have c55 : I51 a1 1 = v3 := (f54 _ _ (fun q => absurd q.2 (by decide))).trans c4
    have c56 : I51 a0 19 = v6 := (f54 _ _ (fun q => absurd q.2 (by decide))).trans c7
    have c57 : I51 a1 0 = v9 := (f54 _ _ (fun q => by have z := ta1; rw [q.1, ta0] at z; exact absurd z (by decide))).trans c10
    have c58 : I51 a1 2 = v11 := (f54 _ _ (fun q => absurd q.2 (by decide))).trans c12
    refine tr_aload_n dX12_lift_5 rfl ?_
    refine tr_getR dX12_lift_6 fl12_385 (kR15 hS52.1 ta0) d22 ?_
    refine tr_ifnull dX12_lift_9 ?_
    refine tr_aload_n dX12_lift_12 rfl ?_
    refine tr_getR dX12_lift_13 fl12_17 (kR15 hS52.1 ta0) d2 ?_
    refine q_iconst dX12_lift_16 (by decide) ?_
    intro v59 h60
    refine q_iald dX12_lift_17 (kR77 hS52.1 ta1) (ti_in (nR77 hS52.1 ta1) (by exact om_f9079521 h60) (by exact om_73248752 h60)) ?_
    intro v61 c62
    rw [show v59.toNatClampNeg = 1 from ti_cl (by exact om_21c44602 h60)] at c62
    obtain rfl : v3 = v61 := (c55).symm.trans c62
    refine q_if_ne 28 dX12_lift_18 (by decide) (fun h63 => ?_) (fun h63 => ?_)
    · skip
      refine tr_aload_n dX12_lift_28 rfl ?_
      refine q_callVv hE (M' := mX12_keeps) (as := []) dX12_lift_29 lk12_510 inX12_keeps seX12_keeps myX12_keeps (by decide) ⟨by decide, by decide⟩ rfl (kR15 hS52.1 ta0) (Nat.le_of_ble_eq_true rfl) rfl rfl (by decide) (by decide) (fk_X12_keeps hS52.1  ta0) ?_
      rintro cn' K' N' I64 R65 L66 ⟨rfl, rfl, rfl, rfl, rfl, g67, p70, p71, rp72, -⟩
      have hS73 := hS52.tr g67 (by decide +kernel) (by decide +kernel)
      have c74 : I64 a1 1 = v3 := (g67.cell ta1 (by decide +kernel)).trans c55
      have c75 : I64 a1 0 = v9 := (g67.cell ta1 (by decide +kernel)).trans c57
      have c76 : I64 a1 2 = v11 := (g67.cell ta1 (by decide +kernel)).trans c58
      have c77 : I64 a0 0 = v49 := (g67.cell ta0 (by decide +kernel)).trans e53
      obtain ⟨v78, c79⟩ : ∃ v, I64 a0 19 = v := ⟨_, rfl⟩
      have b80 := iv15_19 hS73.1 ta0 c79
      rw [c56] at p70
      rw [c79] at p70
      rw [c56] at p71
      rw [c79] at p71
      refine tr_aload_n dX12_lift_32 rfl ?_
      refine tr_getR dX12_lift_33 fl12_17 (kR15 hS73.1 ta0) d2 ?_
      refine q_iconst dX12_lift_36 (by decide) ?_
      intro v81 h82
      refine tr_dup2 dX12_lift_37 rfl rfl ?_
      refine q_iald dX12_lift_38 (kR77 hS73.1 ta1) (ti_in (nR77 hS73.1 ta1) (by exact om_f9079521 h82) (by exact om_73248752 h82)) ?_
      intro v83 c84
      rw [show v81.toNatClampNeg = 1 from ti_cl (by exact om_21c44602 h82)] at c84
      obtain rfl : v3 = v83 := (c74).symm.trans c84
      refine q_iconst dX12_lift_39 (by decide) ?_
      intro v85 h86
      refine q_isubE dX12_lift_40 (by intro j1 j2 j3 j4; exact om_8ca73117 b5.2 b5.1 h86) ?_
      intro v87 h88
      refine q_iast dX12_lift_41 (kR77 hS73.1 ta1) (ti_in (nR77 hS73.1 ta1) (by exact om_f9079521 h82) (by exact om_73248752 h82)) hS73 ta1 (iok_w1 rfl (by have q := ti_nat (i := v81) (by exact om_f9079521 h82); exact om_7d18bd26 h82 q) (by exact om_1e90aae0 b5.2 b5.1 b8.2 b8.1 h63 p71 p70 h86 h88)) rfl (by rfl) ?_
      intro I89 hS90 e92 f91
      have c93 : I89 a1 0 = v9 := (f91 _ _ (fun q => by have z := ti_nat (i := v81) (by exact om_f9079521 h82); exact om_660ed6cc h82 q.2 z)).trans c75
      have c94 : I89 a1 2 = v11 := (f91 _ _ (fun q => by have z := ti_nat (i := v81) (by exact om_f9079521 h82); exact om_13a0f515 h82 q.2 z)).trans c76
      have c95 : I89 a0 0 = v49 := (f91 _ _ (fun q => by have z := ti_nat (i := v81) (by exact om_f9079521 h82); exact om_660ed6cc h82 q.2 z)).trans c77
      have c96 : I89 a0 19 = v78 := (f91 _ _ (fun q => by have z := ti_nat (i := v81) (by exact om_f9079521 h82); exact om_26b5e33d h82 q.2 z)).trans c79
      rw [show v81.toNatClampNeg = 1 from ti_cl (by exact om_21c44602 h82)] at e92
      refine tr_aload_n dX12_lift_42 rfl ?_
      refine q_callVi hE (M' := mX12_granted) (as := []) dX12_lift_43 lk12_513 inX12_granted seX12_granted myX12_granted (by decide) ⟨by decide, by decide⟩ rfl (kR15 hS90.1 ta0) (Nat.le_of_ble_eq_true rfl) rfl rfl (by decide) (by decide) (fk_X12_granted hS90.1  ta0) ?_
      rintro v102 cn' K' N' I97 R98 L99 ⟨rfl, rfl, rfl, rfl, rfl, g100, h103, p104, -⟩
      have hS105 := hS90.tr g100 (by decide +kernel) (by decide +kernel)
      have c106 : I97 a1 0 = v9 := (g100.cell ta1 (by decide +kernel)).trans c93
      have c107 : I97 a1 2 = v11 := (g100.cell ta1 (by decide +kernel)).trans c94
      have c108 : I97 a0 0 = v49 := (g100.cell ta0 (by decide +kernel)).trans c95
      have c109 : I97 a0 19 = v78 := (g100.cell ta0 (by decide +kernel)).trans c96
      have c110 : I97 a1 1 = v87 := (g100.cell ta1 (by decide +kernel)).trans e92
      exact tr_zret hZ dX12_lift_46 rfl (ti_b01 (by exact om_f9079521 p104) (by exact om_e6632817 p104)) (by decide) (by decide) ⟨v102, rfl, rfl, rfl, rfl, rfl, rfl, hS105, (by exact om_be53a44c h103), (Or.inr (Or.inr (⟨(by (try rw [c7]); (try rw [c109]); first | done | with_reducible assumption | omega), (by (try rw [c7]); (try rw [c109]); first | done | with_reducible assumption | omega), (fun q0 z0 => by obtain rfl := Option.some.inj ((d2).symm.trans z0); (try rw [c4]); first | done | with_reducible assumption | exact om_75b9b3ce b5.2 b5.1 b8.2 b8.1 h63 p71 p70 h86 h88), (by first | done | with_reducible assumption | omega), (fun q0 z0 => by obtain rfl := Option.some.inj ((d2).symm.trans z0); (try rw [c110]); (try rw [c4]); first | done | with_reducible assumption | exact om_d85062b9 h86 h88), (fun q0 z0 => by obtain rfl := Option.some.inj ((d2).symm.trans z0); (try rw [c106]); (try rw [c10]); first | done | with_reducible assumption | omega), (fun q0 z0 => by obtain rfl := Option.some.inj ((d2).symm.trans z0); (try rw [c107]); (try rw [c12]); first | done | with_reducible assumption | omega), ⟨_, d22⟩, (fun w p hw hp => by obtain rfl := Option.some.inj (d2.symm.trans hw); obtain rfl := Option.some.inj (d18.symm.trans hp); have z := rp72 _ _ d2 d18; rw [c56] at z; rw [c7]; exact KeM.kp z (fun k => (f54 _ _ (fun q => by have z := ta17; rw [q.1, ta0] at z; exact absurd z (by decide)))) (fun k => (f54 _ _ (fun q => by have z := ta1; rw [q.1, ta0] at z; exact absurd z (by decide)))) (fun k => ((g100.cell ta17 (wm_no (by decide +kernel))).trans (f91 _ _ (fun q => by have z := ta17; rw [q.1, ta1] at z; exact absurd z (by decide)))))), trivial⟩))), trivial⟩
    · skip
      refine tr_aload_n dX12_lift_21 rfl ?_
      refine q_bipush dX12_lift_22 (by decide +kernel) ?_
      intro v111 h112
      refine q_callVi hE (M' := mX12_denied) (as := [_]) dX12_lift_24 lk12_507 inX12_denied seX12_denied myX12_denied (by decide) ⟨by decide, by decide⟩ rfl (kR15 hS52.1 ta0) (Nat.le_of_ble_eq_true rfl) rfl rfl (by decide) (by decide) (fk_X12_denied hS52.1  ta0) ?_
      rintro v118 cn' K' N' I113 R114 L115 ⟨rfl, rfl, rfl, rfl, rfl, g116, h119, p120, -⟩
      have hS121 := hS52.tr g116 (by decide +kernel) (by decide +kernel)
      have c122 : I113 a1 1 = v3 := (g116.cell ta1 (by decide +kernel)).trans c55
      have c123 : I113 a0 19 = v6 := (g116.cell ta0 (by decide +kernel)).trans c56
      have c124 : I113 a1 0 = v9 := (g116.cell ta1 (by decide +kernel)).trans c57
      have c125 : I113 a1 2 = v11 := (g116.cell ta1 (by decide +kernel)).trans c58
      have c126 : I113 a0 0 = v49 := (g116.cell ta0 (by decide +kernel)).trans e53
      exact tr_zret hZ dX12_lift_27 rfl (ti_b01 (by exact om_d99fa9e4 p120) (by exact om_d3de7ec9 p120)) (by decide) (by decide) ⟨v118, rfl, rfl, rfl, rfl, rfl, rfl, hS121, (by exact om_be53a44c h119), (Or.inr (Or.inl ⟨(fun q0 z0 => by obtain rfl := Option.some.inj ((d2).symm.trans z0); (try rw [c4]); first | done | with_reducible assumption | omega), (by first | done | with_reducible assumption | omega), ⟨_, d22⟩, ⟨(c123).trans (c7).symm, (((hS121.cell ta0 (by decide +kernel)).trans c15)).trans (c15).symm, fun a j h => by rcases h with h | h | h; exact ((g116.cell h (wm_no (by decide +kernel))).trans (f54 _ _ (fun q => by have z := h; rw [q.1, ta0] at z; exact absurd z (by decide)))); exact ((g116.cell h (wm_no (by decide +kernel))).trans (f54 _ _ (fun q => by have z := h; rw [q.1, ta0] at z; exact absurd z (by decide)))); exact ((g116.cell h (wm_no (by decide +kernel))).trans (f54 _ _ (fun q => by have z := h; rw [q.1, ta0] at z; exact absurd z (by decide))))⟩, trivial⟩)), trivial⟩
def wik_X12_seed : List Nat := [960, 961, 962, 4991]
def wrk_X12_seed : List Nat := []
def Cs_X12_seed (T : Nat → Nat) (I0 : cz_I) (R0 : cz_R) (a0 : Nat) (x1 : Int32) (v : Int32) (I' : cz_I) (R' : cz_R) : Prop :=
  ((v.toInt = 0) ∧ (R0 a0 3 = none) ∧ (SmM T I0 I' a0) ∧ True) ∨
  (((x1.toInt < 0 ∨ x1.toInt > 65536)) ∧ (v.toInt = 0) ∧ (∃ b, R0 a0 3 = some b) ∧ (SmM T I0 I' a0) ∧ True) ∨
  ((0 ≤ x1.toInt) ∧ (x1.toInt ≤ 65536) ∧ (v.toInt = 1) ∧ (∀ b1, R0 a0 16 = some b1 → (I' b1 2).toInt = x1.toInt) ∧ (∀ b1, R0 a0 16 = some b1 → (I' b1 0).toInt = (I0 b1 0).toInt) ∧ (∀ b1, R0 a0 16 = some b1 → (I' b1 1).toInt = (I0 b1 1).toInt) ∧ (∃ b, R0 a0 3 = some b) ∧ True)
set_option maxHeartbeats 4000000 in
theorem fk_X12_seed {l : Launch} {T : Nat → Nat} {cn : Nat} {K N : Nat → Nat} {I0 : cz_I} {R0 : cz_R} {L0 : cz_L} {d : Int} (hW0 : Wf T cn K N I0 R0 d)  {a0 : Nat} (ta0 : T a0 = 15) {x1 : Int32} : ConE l mX12_seed [.ref a0, .int x1] cn K N I0 R0 L0 (ca_i (fun v cn' K' N' I' R' L' => cn = cn' ∧ K = K' ∧ N = N' ∧ R0 = R' ∧ L0 = L' ∧ St T cn K N d wik_X12_seed wrk_X12_seed I0 R0 I' R0 ∧ (0 ≤ v.toInt ∧ v.toInt ≤ 1) ∧ Cs_X12_seed T I0 R0 a0 x1 v I' R0 ∧ True)) := by
  refine ConE.of (by decide +kernel) rfl (Nat.le_of_ble_eq_true rfl) rfl (fun X hX hZ hE => ?_)
  subst hX
  have hS0 : St T cn K N d wik_X12_seed wrk_X12_seed I0 R0 I0 R0 := St.rf0 hW0
  obtain ⟨a1, d2, ta1⟩ := rf15_16 hW0 ta0
  obtain ⟨v3, c4⟩ : ∃ v, I0 a1 0 = v := ⟨_, rfl⟩
  obtain ⟨v5, c6⟩ : ∃ v, I0 a1 1 = v := ⟨_, rfl⟩
  have b7 := iv77_1 hS0.1 ta1 (by decide) c6
  obtain ⟨v8, c9⟩ : ∃ v, I0 a0 19 = v := ⟨_, rfl⟩
  have b10 := iv15_19 hW0 ta0 c9
  obtain ⟨v11, c12⟩ : ∃ v, I0 a0 20 = v := ⟨_, rfl⟩
  have b13 := iv15_20 hW0 ta0 c12
  obtain ⟨a14, d15, ta14⟩ := rf15_17 hW0 ta0
  obtain ⟨a16, d17, ta16⟩ := rf15_18 hW0 ta0
  obtain ⟨v18, c19⟩ : ∃ v, I0 a1 2 = v := ⟨_, rfl⟩
  have b20 := iv77_2 hS0.1 ta1 (by decide) c19
  rcases rf15_3 hW0 ta0 with d22 | ⟨a21, d22, ta21⟩
  · skip
    refine tr_aload_n dX12_seed_0 rfl ?_
    refine q_iconst dX12_seed_1 (by decide) ?_
    intro v23 h24
    refine q_putI dX12_seed_2 fl12_70 (kR15 hS0.1 ta0) (Or.inl rfl) hS0 ta0 (iokF rfl) rfl (by decide +kernel) ?_
    intro I25 hS26 e27 f28
    have c29 : I25 a1 0 = v3 := (f28 _ _ (fun q => by have z := ta1; rw [q.1, ta0] at z; exact absurd z (by decide))).trans c4
    have c30 : I25 a1 1 = v5 := (f28 _ _ (fun q => absurd q.2 (by decide))).trans c6
    have c31 : I25 a1 2 = v18 := (f28 _ _ (fun q => absurd q.2 (by decide))).trans c19
    refine tr_aload_n dX12_seed_5 rfl ?_
    refine tr_getN dX12_seed_6 fl12_385 (kR15 hS26.1 ta0) d22 ?_
    refine tr_ifnonnullN dX12_seed_9 ?_
    refine tr_aload_n dX12_seed_12 rfl ?_
    refine q_iconst dX12_seed_13 (by decide) ?_
    intro v32 h33
    refine q_callVi hE (M' := mX12_denied) (as := [_]) dX12_seed_14 lk12_507 inX12_denied seX12_denied myX12_denied (by decide) ⟨by decide, by decide⟩ rfl (kR15 hS26.1 ta0) (Nat.le_of_ble_eq_true rfl) rfl rfl (by decide) (by decide) (fk_X12_denied hS26.1  ta0) ?_
    rintro v39 cn' K' N' I34 R35 L36 ⟨rfl, rfl, rfl, rfl, rfl, g37, h40, p41, -⟩
    have hS42 := hS26.tr g37 (by decide +kernel) (by decide +kernel)
    have c43 : I34 a1 0 = v3 := (g37.cell ta1 (by decide +kernel)).trans c29
    have c44 : I34 a1 1 = v5 := (g37.cell ta1 (by decide +kernel)).trans c30
    have c45 : I34 a1 2 = v18 := (g37.cell ta1 (by decide +kernel)).trans c31
    have c46 : I34 a0 0 = v23 := (g37.cell ta0 (by decide +kernel)).trans e27
    exact tr_zret hZ dX12_seed_17 rfl (ti_b01 (by exact om_d99fa9e4 p41) (by exact om_d3de7ec9 p41)) (by decide) (by decide) ⟨v39, rfl, rfl, rfl, rfl, rfl, rfl, hS42, (by exact om_be53a44c h40), (Or.inl ⟨(by first | done | with_reducible assumption | omega), d22, ⟨(((hS42.cell ta0 (by decide +kernel)).trans c9)).trans (c9).symm, (((hS42.cell ta0 (by decide +kernel)).trans c12)).trans (c12).symm, fun a j h => by rcases h with h | h | h; exact ((g37.cell h (wm_no (by decide +kernel))).trans (f28 _ _ (fun q => by have z := h; rw [q.1, ta0] at z; exact absurd z (by decide)))); exact ((g37.cell h (wm_no (by decide +kernel))).trans (f28 _ _ (fun q => by have z := h; rw [q.1, ta0] at z; exact absurd z (by decide)))); exact ((g37.cell h (wm_no (by decide +kernel))).trans (f28 _ _ (fun q => by have z := h; rw [q.1, ta0] at z; exact absurd z (by decide))))⟩, trivial⟩), trivial⟩
  · skip
    refine tr_aload_n dX12_seed_0 rfl ?_
    refine q_iconst dX12_seed_1 (by decide) ?_
    intro v47 h48
    refine q_putI dX12_seed_2 fl12_70 (kR15 hS0.1 ta0) (Or.inl rfl) hS0 ta0 (iokF rfl) rfl (by decide +kernel) ?_
    intro I49 hS50 e51 f52
    have c53 : I49 a1 0 = v3 := (f52 _ _ (fun q => by have z := ta1; rw [q.1, ta0] at z; exact absurd z (by decide))).trans c4
    have c54 : I49 a1 1 = v5 := (f52 _ _ (fun q => absurd q.2 (by decide))).trans c6
    have c55 : I49 a1 2 = v18 := (f52 _ _ (fun q => absurd q.2 (by decide))).trans c19
    refine tr_aload_n dX12_seed_5 rfl ?_
    refine tr_getR dX12_seed_6 fl12_385 (kR15 hS50.1 ta0) d22 ?_
    refine tr_ifnonnull 18 dX12_seed_9 (by decide) ?_
    refine tr_iload_n dX12_seed_18 rfl ?_
    refine q_iconst dX12_seed_19 (by decide) ?_
    intro v56 h57
    refine q_ldcw 65536 dX12_seed_20 ld12_503 (by decide +kernel) ?_
    intro v58 h59
    refine q_callSi hE (M' := mX12_in) (as := [_, _, _]) dX12_seed_23 lk12_149 inX12_in myX12_in ⟨by decide, by decide⟩ rfl (Nat.le_of_ble_eq_true rfl) rfl rfl (by decide) (by decide) (fk_X12_in hS50.1  ) ?_
    rintro v65 cn' K' N' I60 R61 L62 ⟨rfl, rfl, rfl, rfl, rfl, rfl, h66, dj67, -⟩
    rcases dj67 with ⟨p68, p69, p70, -⟩ | ⟨p71, p72, -⟩
    · skip
      refine q_if_ne 35 dX12_seed_26 (by decide) (fun h73 => ?_) (fun h73 => ?_)
      · skip
        refine tr_aload_n dX12_seed_35 rfl ?_
        refine tr_getR dX12_seed_36 fl12_17 (kR15 hS50.1 ta0) d2 ?_
        refine q_iconst dX12_seed_39 (by decide) ?_
        intro v74 h75
        refine tr_iload_n dX12_seed_40 rfl ?_
        refine q_iast dX12_seed_41 (kR77 hS50.1 ta1) (ti_in (nR77 hS50.1 ta1) (by exact om_bf35f35a h75) (by exact om_b96ee957 h75)) hS50 ta1 (iok_w2 rfl (by have q := ti_nat (i := v74) (by exact om_bf35f35a h75); exact om_e6ef3c86 h75 q) (by exact om_34b30c74 h57 h59 p69 p70)) rfl (by rfl) ?_
        intro I76 hS77 e79 f78
        have c80 : I76 a1 0 = v3 := (f78 _ _ (fun q => by have z := ti_nat (i := v74) (by exact om_bf35f35a h75); exact om_dc3faab9 h75 q.2 z)).trans c53
        have c81 : I76 a1 1 = v5 := (f78 _ _ (fun q => by have z := ti_nat (i := v74) (by exact om_bf35f35a h75); exact om_60b9cf8f h75 q.2 z)).trans c54
        have c82 : I76 a0 0 = v47 := (f78 _ _ (fun q => by have z := ti_nat (i := v74) (by exact om_bf35f35a h75); exact om_dc3faab9 h75 q.2 z)).trans e51
        rw [show v74.toNatClampNeg = 2 from ti_cl (by exact om_b0719f56 h75)] at e79
        refine tr_aload_n dX12_seed_42 rfl ?_
        refine q_callVi hE (M' := mX12_granted) (as := []) dX12_seed_43 lk12_513 inX12_granted seX12_granted myX12_granted (by decide) ⟨by decide, by decide⟩ rfl (kR15 hS77.1 ta0) (Nat.le_of_ble_eq_true rfl) rfl rfl (by decide) (by decide) (fk_X12_granted hS77.1  ta0) ?_
        rintro v88 cn' K' N' I83 R84 L85 ⟨rfl, rfl, rfl, rfl, rfl, g86, h89, p90, -⟩
        have hS91 := hS77.tr g86 (by decide +kernel) (by decide +kernel)
        have c92 : I83 a1 0 = v3 := (g86.cell ta1 (by decide +kernel)).trans c80
        have c93 : I83 a1 1 = v5 := (g86.cell ta1 (by decide +kernel)).trans c81
        have c94 : I83 a0 0 = v47 := (g86.cell ta0 (by decide +kernel)).trans c82
        have c95 : I83 a1 2 = x1 := (g86.cell ta1 (by decide +kernel)).trans e79
        exact tr_zret hZ dX12_seed_46 rfl (ti_b01 (by exact om_f9079521 p90) (by exact om_e6632817 p90)) (by decide) (by decide) ⟨v88, rfl, rfl, rfl, rfl, rfl, rfl, hS91, (by exact om_be53a44c h89), (Or.inr (Or.inr (⟨(by first | done | with_reducible assumption | exact om_5701e63c h57 h59 p69 p70), (by first | done | with_reducible assumption | exact om_cf38485a h57 h59 p69 p70), (by first | done | with_reducible assumption | omega), (fun q0 z0 => by obtain rfl := Option.some.inj ((d2).symm.trans z0); (try rw [c95]); first | done | with_reducible assumption | omega), (fun q0 z0 => by obtain rfl := Option.some.inj ((d2).symm.trans z0); (try rw [c92]); (try rw [c4]); first | done | with_reducible assumption | omega), (fun q0 z0 => by obtain rfl := Option.some.inj ((d2).symm.trans z0); (try rw [c93]); (try rw [c6]); first | done | with_reducible assumption | omega), ⟨_, d22⟩, trivial⟩))), trivial⟩
      · skip
        exfalso; exact om_3624102b p68 h73
    · skip
      refine q_if_ne 35 dX12_seed_26 (by decide) (fun h96 => ?_) (fun h96 => ?_)
      · skip
        exfalso; exact om_3a97d4a5 p71 h96
      · skip
        refine tr_aload_n dX12_seed_29 rfl ?_
        refine q_iconst dX12_seed_30 (by decide) ?_
        intro v97 h98
        refine q_callVi hE (M' := mX12_denied) (as := [_]) dX12_seed_31 lk12_507 inX12_denied seX12_denied myX12_denied (by decide) ⟨by decide, by decide⟩ rfl (kR15 hS50.1 ta0) (Nat.le_of_ble_eq_true rfl) rfl rfl (by decide) (by decide) (fk_X12_denied hS50.1  ta0) ?_
        rintro v104 cn' K' N' I99 R100 L101 ⟨rfl, rfl, rfl, rfl, rfl, g102, h105, p106, -⟩
        have hS107 := hS50.tr g102 (by decide +kernel) (by decide +kernel)
        have c108 : I99 a1 0 = v3 := (g102.cell ta1 (by decide +kernel)).trans c53
        have c109 : I99 a1 1 = v5 := (g102.cell ta1 (by decide +kernel)).trans c54
        have c110 : I99 a1 2 = v18 := (g102.cell ta1 (by decide +kernel)).trans c55
        have c111 : I99 a0 0 = v47 := (g102.cell ta0 (by decide +kernel)).trans e51
        exact tr_zret hZ dX12_seed_34 rfl (ti_b01 (by exact om_d99fa9e4 p106) (by exact om_d3de7ec9 p106)) (by decide) (by decide) ⟨v104, rfl, rfl, rfl, rfl, rfl, rfl, hS107, (by exact om_be53a44c h105), (Or.inr (Or.inl ⟨(by first | done | with_reducible assumption | exact om_7656996d h57 h59 p72), (by first | done | with_reducible assumption | omega), ⟨_, d22⟩, ⟨(((hS107.cell ta0 (by decide +kernel)).trans c9)).trans (c9).symm, (((hS107.cell ta0 (by decide +kernel)).trans c12)).trans (c12).symm, fun a j h => by rcases h with h | h | h; exact ((g102.cell h (wm_no (by decide +kernel))).trans (f52 _ _ (fun q => by have z := h; rw [q.1, ta0] at z; exact absurd z (by decide)))); exact ((g102.cell h (wm_no (by decide +kernel))).trans (f52 _ _ (fun q => by have z := h; rw [q.1, ta0] at z; exact absurd z (by decide)))); exact ((g102.cell h (wm_no (by decide +kernel))).trans (f52 _ _ (fun q => by have z := h; rw [q.1, ta0] at z; exact absurd z (by decide))))⟩, trivial⟩)), trivial⟩
def wik_X12_undo : List Nat := [960, 961, 962, 979, 4991]
def wrk_X12_undo : List Nat := []
def Cs_X12_undo (T : Nat → Nat) (I0 : cz_I) (R0 : cz_R) (a0 : Nat) (v : Int32) (I' : cz_I) (R' : cz_R) : Prop :=
  ((v.toInt = 0) ∧ (R0 a0 3 = none) ∧ (SmM T I0 I' a0) ∧ True) ∨
  (((I0 a0 19).toInt = 0) ∧ (v.toInt = 0) ∧ (∃ b, R0 a0 3 = some b) ∧ (SmM T I0 I' a0) ∧ True) ∨
  (((I0 a0 19).toInt ≥ 1) ∧ (v.toInt = 1) ∧ ((I' a0 19).toInt = (I0 a0 19).toInt - 1) ∧ (∃ b, R0 a0 3 = some b) ∧ (∀ w p, R0 a0 16 = some w → R0 a0 17 = some p → ∀ c : Nat, c < 15 → I' w c = I0 p (15 * ((I0 a0 19).toInt - 1).toNat + c)) ∧ True)
set_option maxHeartbeats 4000000 in
theorem fk_X12_undo {l : Launch} {T : Nat → Nat} {cn : Nat} {K N : Nat → Nat} {I0 : cz_I} {R0 : cz_R} {L0 : cz_L} {d : Int} (hW0 : Wf T cn K N I0 R0 d)  {a0 : Nat} (ta0 : T a0 = 15) : ConE l mX12_undo [.ref a0] cn K N I0 R0 L0 (ca_i (fun v cn' K' N' I' R' L' => cn = cn' ∧ K = K' ∧ N = N' ∧ R0 = R' ∧ L0 = L' ∧ St T cn K N d wik_X12_undo wrk_X12_undo I0 R0 I' R0 ∧ (0 ≤ v.toInt ∧ v.toInt ≤ 1) ∧ Cs_X12_undo T I0 R0 a0 v I' R0 ∧ True)) := by
  refine ConE.of (by decide +kernel) rfl (Nat.le_of_ble_eq_true rfl) rfl (fun X hX hZ hE => ?_)
  subst hX
  have hS0 : St T cn K N d wik_X12_undo wrk_X12_undo I0 R0 I0 R0 := St.rf0 hW0
  obtain ⟨v1, c2⟩ : ∃ v, I0 a0 19 = v := ⟨_, rfl⟩
  have b3 := iv15_19 hS0.1 ta0 c2
  obtain ⟨v4, c5⟩ : ∃ v, I0 a0 20 = v := ⟨_, rfl⟩
  have b6 := iv15_20 hW0 ta0 c5
  obtain ⟨a7, d8, ta7⟩ := rf15_16 hW0 ta0
  obtain ⟨a9, d10, ta9⟩ := rf15_17 hW0 ta0
  obtain ⟨a11, d12, ta11⟩ := rf15_18 hW0 ta0
  obtain ⟨v13, c14⟩ : ∃ v, I0 a7 0 = v := ⟨_, rfl⟩
  obtain ⟨v15, c16⟩ : ∃ v, I0 a7 1 = v := ⟨_, rfl⟩
  have b17 := iv77_1 hS0.1 ta7 (by decide) c16
  obtain ⟨v18, c19⟩ : ∃ v, I0 a7 2 = v := ⟨_, rfl⟩
  have b20 := iv77_2 hS0.1 ta7 (by decide) c19
  rcases rf15_3 hW0 ta0 with d22 | ⟨a21, d22, ta21⟩
  · skip
    refine tr_aload_n dX12_undo_0 rfl ?_
    refine q_iconst dX12_undo_1 (by decide) ?_
    intro v23 h24
    refine q_putI dX12_undo_2 fl12_70 (kR15 hS0.1 ta0) (Or.inl rfl) hS0 ta0 (iokF rfl) rfl (by decide +kernel) ?_
    intro I25 hS26 e27 f28
    have c29 : I25 a0 19 = v1 := (f28 _ _ (fun q => absurd q.2 (by decide))).trans c2
    have c30 : I25 a7 0 = v13 := (f28 _ _ (fun q => by have z := ta7; rw [q.1, ta0] at z; exact absurd z (by decide))).trans c14
    have c31 : I25 a7 1 = v15 := (f28 _ _ (fun q => absurd q.2 (by decide))).trans c16
    have c32 : I25 a7 2 = v18 := (f28 _ _ (fun q => absurd q.2 (by decide))).trans c19
    refine tr_aload_n dX12_undo_5 rfl ?_
    refine tr_getN dX12_undo_6 fl12_385 (kR15 hS26.1 ta0) d22 ?_
    refine tr_ifnullN 19 dX12_undo_9 (by decide) ?_
    refine tr_aload_n dX12_undo_19 rfl ?_
    refine q_bipush dX12_undo_20 (by decide +kernel) ?_
    intro v33 h34
    refine q_callVi hE (M' := mX12_denied) (as := [_]) dX12_undo_22 lk12_507 inX12_denied seX12_denied myX12_denied (by decide) ⟨by decide, by decide⟩ rfl (kR15 hS26.1 ta0) (Nat.le_of_ble_eq_true rfl) rfl rfl (by decide) (by decide) (fk_X12_denied hS26.1  ta0) ?_
    rintro v40 cn' K' N' I35 R36 L37 ⟨rfl, rfl, rfl, rfl, rfl, g38, h41, p42, -⟩
    have hS43 := hS26.tr g38 (by decide +kernel) (by decide +kernel)
    have c44 : I35 a0 19 = v1 := (g38.cell ta0 (by decide +kernel)).trans c29
    have c45 : I35 a7 0 = v13 := (g38.cell ta7 (by decide +kernel)).trans c30
    have c46 : I35 a7 1 = v15 := (g38.cell ta7 (by decide +kernel)).trans c31
    have c47 : I35 a7 2 = v18 := (g38.cell ta7 (by decide +kernel)).trans c32
    have c48 : I35 a0 0 = v23 := (g38.cell ta0 (by decide +kernel)).trans e27
    exact tr_zret hZ dX12_undo_25 rfl (ti_b01 (by exact om_d99fa9e4 p42) (by exact om_d3de7ec9 p42)) (by decide) (by decide) ⟨v40, rfl, rfl, rfl, rfl, rfl, rfl, hS43, (by exact om_be53a44c h41), (Or.inl ⟨(by first | done | with_reducible assumption | omega), d22, ⟨(c44).trans (c2).symm, (((hS43.cell ta0 (by decide +kernel)).trans c5)).trans (c5).symm, fun a j h => by rcases h with h | h | h; exact ((g38.cell h (wm_no (by decide +kernel))).trans (f28 _ _ (fun q => by have z := h; rw [q.1, ta0] at z; exact absurd z (by decide)))); exact ((g38.cell h (wm_no (by decide +kernel))).trans (f28 _ _ (fun q => by have z := h; rw [q.1, ta0] at z; exact absurd z (by decide)))); exact ((g38.cell h (wm_no (by decide +kernel))).trans (f28 _ _ (fun q => by have z := h; rw [q.1, ta0] at z; exact absurd z (by decide))))⟩, trivial⟩), trivial⟩
  · skip
    refine tr_aload_n dX12_undo_0 rfl ?_
    refine q_iconst dX12_undo_1 (by decide) ?_
    intro v49 h50
    refine q_putI dX12_undo_2 fl12_70 (kR15 hS0.1 ta0) (Or.inl rfl) hS0 ta0 (iokF rfl) rfl (by decide +kernel) ?_
    intro I51 hS52 e53 f54
    have c55 : I51 a0 19 = v1 := (f54 _ _ (fun q => absurd q.2 (by decide))).trans c2
    have c56 : I51 a7 0 = v13 := (f54 _ _ (fun q => by have z := ta7; rw [q.1, ta0] at z; exact absurd z (by decide))).trans c14
    have c57 : I51 a7 1 = v15 := (f54 _ _ (fun q => absurd q.2 (by decide))).trans c16
    have c58 : I51 a7 2 = v18 := (f54 _ _ (fun q => absurd q.2 (by decide))).trans c19
    refine tr_aload_n dX12_undo_5 rfl ?_
    refine tr_getR dX12_undo_6 fl12_385 (kR15 hS52.1 ta0) d22 ?_
    refine tr_ifnull dX12_undo_9 ?_
    refine tr_aload_n dX12_undo_12 rfl ?_
    refine q_getI dX12_undo_13 fl12_387 (kR15 hS52.1 ta0) c55 ?_
    refine q_if_ne 26 dX12_undo_16 (by decide) (fun h59 => ?_) (fun h59 => ?_)
    · skip
      refine tr_aload_n dX12_undo_26 rfl ?_
      refine tr_dup dX12_undo_27 rfl ?_
      refine q_getI dX12_undo_28 fl12_387 (kR15 hS52.1 ta0) c55 ?_
      refine q_iconst dX12_undo_31 (by decide) ?_
      intro v60 h61
      refine q_isubE dX12_undo_32 (by intro j1 j2 j3 j4; exact om_7c03527b b3.2 b3.1 h61) ?_
      intro v62 h63
      refine q_putI dX12_undo_33 fl12_387 (kR15 hS52.1 ta0) (Or.inl rfl) hS52 ta0 (by show (0 : Int) ≤ v62.toInt ∧ v62.toInt ≤ (12 : Int); exact om_72140644 b3.2 b3.1 h59 h61 h63) rfl (by decide +kernel) ?_
      intro I64 hS65 e66 f67
      have c68 : I64 a7 0 = v13 := (f67 _ _ (fun q => absurd q.2 (by decide))).trans c56
      have c69 : I64 a7 1 = v15 := (f67 _ _ (fun q => absurd q.2 (by decide))).trans c57
      have c70 : I64 a7 2 = v18 := (f67 _ _ (fun q => absurd q.2 (by decide))).trans c58
      have c71 : I64 a0 0 = v49 := (f67 _ _ (fun q => absurd q.2 (by decide))).trans e53
      refine q_iconst dX12_undo_36 (by decide) ?_
      intro v72 h73
      refine tr_istore_n dX12_undo_37 (by decide) (by decide) ?_
      have lp85 : ∀ (fu : Nat) (ls : Nat → Option Value) (v74 : Int32) (I77 : cz_I) (v79 : Int32), ls 0 = some (.ref a0) → ls 1 = some (.int v74) → St T cn K N d wik_X12_undo wrk_X12_undo I0 R0 I77 R0 → I77 a0 19 = v79 → v79.toInt = v1.toInt - 1 → 0 ≤ v74.toInt → v74.toInt ≤ 15 → (CwI I0 I77 a7 a9 (15 * v79.toInt) v74.toInt) → (-v74.toInt + 2147483647).toNat < fu → Tr X mX12_undo 38 ls [] cn K N I77 R0 L0 0 0 := by
        intro fu
        induction fu with
        | zero => intros; rename_i hz; exact absurd hz (Nat.not_lt_zero _)
        | succ fu ih85 =>
          intro ls v74 I77 v79 hl75 hl76 hS78 c80 g81 g82 g83 rw84 hm85
          have b87 := iv15_19 hS78.1 ta0 c80
          refine tr_iload_n dX12_undo_38 hl76 ?_
          refine q_bipush dX12_undo_39 (by decide +kernel) ?_
          intro v88 h89
          refine q_icmp_ge 70 dX12_undo_41 (by decide) (fun h90 => ?_) (fun h90 => ?_)
          · skip
            refine tr_aload_n dX12_undo_70 hl75 ?_
            refine q_callVi hE (M' := mX12_granted) (as := []) dX12_undo_71 lk12_513 inX12_granted seX12_granted myX12_granted (by decide) ⟨by decide, by decide⟩ rfl (kR15 hS78.1 ta0) (Nat.le_of_ble_eq_true rfl) rfl rfl (by decide) (by decide) (fk_X12_granted hS78.1  ta0) ?_
            rintro v96 cn' K' N' I91 R92 L93 ⟨rfl, rfl, rfl, rfl, rfl, g94, h97, p98, -⟩
            have hS99 := hS78.tr g94 (by decide +kernel) (by decide +kernel)
            have c100 : I91 a0 19 = v79 := (g94.cell ta0 (by decide +kernel)).trans c80
            exact tr_zret hZ dX12_undo_74 rfl (ti_b01 (by exact om_f9079521 p98) (by exact om_e6632817 p98)) (by decide) (by decide) ⟨v96, rfl, rfl, rfl, rfl, rfl, rfl, hS99, (by exact om_be53a44c h97), (Or.inr (Or.inr (⟨(by (try rw [c2]); first | done | with_reducible assumption | exact om_c6d950ae b3.2 b3.1 h61 h63 g81 b87.1), (by first | done | with_reducible assumption | omega), (by (try rw [c100]); (try rw [c2]); first | done | with_reducible assumption | omega), ⟨_, d22⟩, (fun w p hw hp c hc => by obtain rfl := Option.some.inj (d8.symm.trans hw); obtain rfl := Option.some.inj (d10.symm.trans hp); rw [show I91 a7 c = _ from (g94.cell ta7 (wm_no (by decide +kernel))), rw84 c (by exact om_f7185e3a h89 h90 hc)]; congr 1; have q := Int.toNat_of_nonneg (show 0 ≤ (0 : Int) by exact om_b62a2ddc); rw [c2]; exact om_75fe8f40 b3.2 b3.1 h61 h63 g81 b87.1), trivial⟩))), trivial⟩
          · skip
            refine tr_aload_n dX12_undo_44 hl75 ?_
            refine tr_getR dX12_undo_45 fl12_17 (kR15 hS78.1 ta0) d8 ?_
            refine tr_iload_n dX12_undo_48 hl76 ?_
            refine tr_aload_n dX12_undo_49 hl75 ?_
            refine tr_getR dX12_undo_50 fl12_21 (kR15 hS78.1 ta0) d10 ?_
            refine q_bipush dX12_undo_53 (by decide +kernel) ?_
            intro v101 h102
            refine tr_aload_n dX12_undo_55 hl75 ?_
            refine q_getI dX12_undo_56 fl12_387 (kR15 hS78.1 ta0) c80 ?_
            refine q_imulE (c := 15) dX12_undo_59 (by exact om_e7c7fe43 h102) (by exact om_51430624 b3.2 b3.1 h61 h63 g81 b87.1) ?_
            intro v103 h104
            refine tr_iload_n dX12_undo_60 hl76 ?_
            refine q_iaddE dX12_undo_61 (by intro j1 j2 j3 j4; exact om_a51967e1 b3.2 b3.1 h61 h63 g81 g82 g83 b87.1 h89 h90 h104 j1 j2) ?_
            intro v105 h106
            refine q_iald dX12_undo_62 (kR78 hS78.1 ta9) (ti_in (nR78 hS78.1 ta9) (by exact om_4a7b7450 b3.2 b3.1 h61 h63 g81 g82 g83 b87.1 h89 h90 h104 h106) (by exact om_c39ae3ff b3.2 b3.1 h61 h63 g81 g82 g83 b87.1 h89 h90 h104 h106)) ?_
            intro v107 c108
            refine q_iast dX12_undo_63 (kR77 hS78.1 ta7) (ti_in (nR77 hS78.1 ta7) (by exact om_2cfcd5a5 g82) (by exact om_f9e0e915 g82 g83 h89 h90 h104 h106)) hS78 ta7 (iok_w (r := 78) rfl rfl (by have q := ti_nat (i := v74) (by exact om_2cfcd5a5 g82); have q2 := ti_nat (i := v105) (by exact om_cd4bc875 b3.2 b3.1 h61 h63 g81 g82 g83 b87.1 h89 h90 h104 h106 q); exact om_fcd81f1d h104 h106 q q2) (hS78.1.iv ta9 c108)) rfl (by rfl) ?_
            intro I110 hS111 e113 f112
            have c114 : I110 a0 19 = v79 := (f112 _ _ (fun q => by have z := ti_nat (i := v74) (by exact om_2cfcd5a5 g82); exact om_fe0e3cb9 g82 g83 h89 h90 h104 h106 q.2 z)).trans c80
            refine q_iincE dX12_undo_64 hl76 (by decide) (by decide) (by intro j1 j2; exact om_4853dbec g82 g83 h89 h90 h104 h106) ?_
            intro v115 h116
            refine tr_goto 38 dX12_undo_67 (by decide) ?_
            exact ih85 _ v115 I110 v79 hl75 rfl hS111 c114 (by exact om_c97d2aa0 g81) (by exact om_953278a5 g82 g83 h89 h90 h104 h106 h116) (by exact om_03093957 g82 g83 h89 h90 h104 h106 h116) (CwI.stp (j := v74.toNatClampNeg) rw84 (by exact om_2cfcd5a5 g82) (ti_nat (by exact om_2cfcd5a5 g82)) (by exact om_764ef139 h116) ((hS78.cell ta9 (wm_no (by decide +kernel))).symm.trans (by have z := c108; rw [show v105.toNatClampNeg = (15 * v79.toInt).toNat + v74.toInt.toNat by have q := ti_nat (i := v105) (by exact om_20970d3f b3.2 b3.1 h61 h63 g81 g82 g83 b87.1 h89 h90 h104 h106 h116); exact om_74c3a0d8 b3.2 b3.1 h61 h63 g81 g82 g83 b87.1 h89 h90 h104 h106 h116 q] at z; exact z)) e113 f112) (by exact om_b68903ea g82 g83 hm85 h89 h90 h104 h106 h116)
      exact lp85 _ _ v72 I64 v62 rfl rfl hS65 e66 (by exact om_d85062b9 h61 h63) (by exact om_d99fa9e4 h73) (by exact om_a15f8564 h73) (fun c hc => by omega) (Nat.lt_succ_self _)
    · skip
      refine tr_aload_n dX12_undo_19 rfl ?_
      refine q_bipush dX12_undo_20 (by decide +kernel) ?_
      intro v117 h118
      refine q_callVi hE (M' := mX12_denied) (as := [_]) dX12_undo_22 lk12_507 inX12_denied seX12_denied myX12_denied (by decide) ⟨by decide, by decide⟩ rfl (kR15 hS52.1 ta0) (Nat.le_of_ble_eq_true rfl) rfl rfl (by decide) (by decide) (fk_X12_denied hS52.1  ta0) ?_
      rintro v124 cn' K' N' I119 R120 L121 ⟨rfl, rfl, rfl, rfl, rfl, g122, h125, p126, -⟩
      have hS127 := hS52.tr g122 (by decide +kernel) (by decide +kernel)
      have c128 : I119 a0 19 = v1 := (g122.cell ta0 (by decide +kernel)).trans c55
      have c129 : I119 a7 0 = v13 := (g122.cell ta7 (by decide +kernel)).trans c56
      have c130 : I119 a7 1 = v15 := (g122.cell ta7 (by decide +kernel)).trans c57
      have c131 : I119 a7 2 = v18 := (g122.cell ta7 (by decide +kernel)).trans c58
      have c132 : I119 a0 0 = v49 := (g122.cell ta0 (by decide +kernel)).trans e53
      exact tr_zret hZ dX12_undo_25 rfl (ti_b01 (by exact om_d99fa9e4 p126) (by exact om_d3de7ec9 p126)) (by decide) (by decide) ⟨v124, rfl, rfl, rfl, rfl, rfl, rfl, hS127, (by exact om_be53a44c h125), (Or.inr (Or.inl ⟨(by (try rw [c2]); first | done | with_reducible assumption | omega), (by first | done | with_reducible assumption | omega), ⟨_, d22⟩, ⟨(c128).trans (c2).symm, (((hS127.cell ta0 (by decide +kernel)).trans c5)).trans (c5).symm, fun a j h => by rcases h with h | h | h; exact ((g122.cell h (wm_no (by decide +kernel))).trans (f54 _ _ (fun q => by have z := h; rw [q.1, ta0] at z; exact absurd z (by decide)))); exact ((g122.cell h (wm_no (by decide +kernel))).trans (f54 _ _ (fun q => by have z := h; rw [q.1, ta0] at z; exact absurd z (by decide)))); exact ((g122.cell h (wm_no (by decide +kernel))).trans (f54 _ _ (fun q => by have z := h; rw [q.1, ta0] at z; exact absurd z (by decide))))⟩, trivial⟩)), trivial⟩
def wik_X12_back : List Nat := [960, 961, 962, 979, 4991]
def wrk_X12_back : List Nat := []
def Cs_X12_back (T : Nat → Nat) (I0 : cz_I) (R0 : cz_R) (a0 : Nat) (x1 : Int32) (v : Int32) (I' : cz_I) (R' : cz_R) : Prop :=
  ((v.toInt = 0) ∧ (R0 a0 3 = none) ∧ (SmM T I0 I' a0) ∧ True) ∨
  (((x1.toInt < 0 ∨ x1.toInt ≥ (I0 a0 20).toInt)) ∧ (v.toInt = 0) ∧ (∃ b, R0 a0 3 = some b) ∧ (SmM T I0 I' a0) ∧ True) ∨
  ((0 ≤ x1.toInt) ∧ (x1.toInt < (I0 a0 20).toInt) ∧ (v.toInt = 1) ∧ ((I' a0 19).toInt = 0) ∧ (∃ b, R0 a0 3 = some b) ∧ (∀ w p, R0 a0 16 = some w → R0 a0 18 = some p → ∀ c : Nat, c < 15 → I' w c = I0 p (15 * x1.toInt.toNat + c)) ∧ True)
set_option maxHeartbeats 4000000 in
theorem fk_X12_back {l : Launch} {T : Nat → Nat} {cn : Nat} {K N : Nat → Nat} {I0 : cz_I} {R0 : cz_R} {L0 : cz_L} {d : Int} (hW0 : Wf T cn K N I0 R0 d)  {a0 : Nat} (ta0 : T a0 = 15) {x1 : Int32} : ConE l mX12_back [.ref a0, .int x1] cn K N I0 R0 L0 (ca_i (fun v cn' K' N' I' R' L' => cn = cn' ∧ K = K' ∧ N = N' ∧ R0 = R' ∧ L0 = L' ∧ St T cn K N d wik_X12_back wrk_X12_back I0 R0 I' R0 ∧ (0 ≤ v.toInt ∧ v.toInt ≤ 1) ∧ Cs_X12_back T I0 R0 a0 x1 v I' R0 ∧ True)) := by
  refine ConE.of (by decide +kernel) rfl (Nat.le_of_ble_eq_true rfl) rfl (fun X hX hZ hE => ?_)
  subst hX
  have hS0 : St T cn K N d wik_X12_back wrk_X12_back I0 R0 I0 R0 := St.rf0 hW0
  obtain ⟨v1, c2⟩ : ∃ v, I0 a0 20 = v := ⟨_, rfl⟩
  have b3 := iv15_20 hW0 ta0 c2
  obtain ⟨v4, c5⟩ : ∃ v, I0 a0 19 = v := ⟨_, rfl⟩
  have b6 := iv15_19 hS0.1 ta0 c5
  obtain ⟨a7, d8, ta7⟩ := rf15_16 hW0 ta0
  obtain ⟨a9, d10, ta9⟩ := rf15_17 hW0 ta0
  obtain ⟨a11, d12, ta11⟩ := rf15_18 hW0 ta0
  obtain ⟨v13, c14⟩ : ∃ v, I0 a7 0 = v := ⟨_, rfl⟩
  obtain ⟨v15, c16⟩ : ∃ v, I0 a7 1 = v := ⟨_, rfl⟩
  have b17 := iv77_1 hS0.1 ta7 (by decide) c16
  obtain ⟨v18, c19⟩ : ∃ v, I0 a7 2 = v := ⟨_, rfl⟩
  have b20 := iv77_2 hS0.1 ta7 (by decide) c19
  rcases rf15_3 hW0 ta0 with d22 | ⟨a21, d22, ta21⟩
  · skip
    refine tr_aload_n dX12_back_0 rfl ?_
    refine q_iconst dX12_back_1 (by decide) ?_
    intro v23 h24
    refine q_putI dX12_back_2 fl12_70 (kR15 hS0.1 ta0) (Or.inl rfl) hS0 ta0 (iokF rfl) rfl (by decide +kernel) ?_
    intro I25 hS26 e27 f28
    have c29 : I25 a0 19 = v4 := (f28 _ _ (fun q => absurd q.2 (by decide))).trans c5
    have c30 : I25 a7 0 = v13 := (f28 _ _ (fun q => by have z := ta7; rw [q.1, ta0] at z; exact absurd z (by decide))).trans c14
    have c31 : I25 a7 1 = v15 := (f28 _ _ (fun q => absurd q.2 (by decide))).trans c16
    have c32 : I25 a7 2 = v18 := (f28 _ _ (fun q => absurd q.2 (by decide))).trans c19
    refine tr_aload_n dX12_back_5 rfl ?_
    refine tr_getN dX12_back_6 fl12_385 (kR15 hS26.1 ta0) d22 ?_
    refine tr_ifnullN 24 dX12_back_9 (by decide) ?_
    refine tr_aload_n dX12_back_24 rfl ?_
    refine q_iconst dX12_back_25 (by decide) ?_
    intro v33 h34
    refine q_callVi hE (M' := mX12_denied) (as := [_]) dX12_back_26 lk12_507 inX12_denied seX12_denied myX12_denied (by decide) ⟨by decide, by decide⟩ rfl (kR15 hS26.1 ta0) (Nat.le_of_ble_eq_true rfl) rfl rfl (by decide) (by decide) (fk_X12_denied hS26.1  ta0) ?_
    rintro v40 cn' K' N' I35 R36 L37 ⟨rfl, rfl, rfl, rfl, rfl, g38, h41, p42, -⟩
    have hS43 := hS26.tr g38 (by decide +kernel) (by decide +kernel)
    have c44 : I35 a0 19 = v4 := (g38.cell ta0 (by decide +kernel)).trans c29
    have c45 : I35 a7 0 = v13 := (g38.cell ta7 (by decide +kernel)).trans c30
    have c46 : I35 a7 1 = v15 := (g38.cell ta7 (by decide +kernel)).trans c31
    have c47 : I35 a7 2 = v18 := (g38.cell ta7 (by decide +kernel)).trans c32
    have c48 : I35 a0 0 = v23 := (g38.cell ta0 (by decide +kernel)).trans e27
    exact tr_zret hZ dX12_back_29 rfl (ti_b01 (by exact om_d99fa9e4 p42) (by exact om_d3de7ec9 p42)) (by decide) (by decide) ⟨v40, rfl, rfl, rfl, rfl, rfl, rfl, hS43, (by exact om_be53a44c h41), (Or.inl ⟨(by first | done | with_reducible assumption | omega), d22, ⟨(c44).trans (c5).symm, (((hS43.cell ta0 (by decide +kernel)).trans c2)).trans (c2).symm, fun a j h => by rcases h with h | h | h; exact ((g38.cell h (wm_no (by decide +kernel))).trans (f28 _ _ (fun q => by have z := h; rw [q.1, ta0] at z; exact absurd z (by decide)))); exact ((g38.cell h (wm_no (by decide +kernel))).trans (f28 _ _ (fun q => by have z := h; rw [q.1, ta0] at z; exact absurd z (by decide)))); exact ((g38.cell h (wm_no (by decide +kernel))).trans (f28 _ _ (fun q => by have z := h; rw [q.1, ta0] at z; exact absurd z (by decide))))⟩, trivial⟩), trivial⟩
  · skip
    refine tr_aload_n dX12_back_0 rfl ?_
    refine q_iconst dX12_back_1 (by decide) ?_
    intro v49 h50
    refine q_putI dX12_back_2 fl12_70 (kR15 hS0.1 ta0) (Or.inl rfl) hS0 ta0 (iokF rfl) rfl (by decide +kernel) ?_
    intro I51 hS52 e53 f54
    have c55 : I51 a0 19 = v4 := (f54 _ _ (fun q => absurd q.2 (by decide))).trans c5
    have c56 : I51 a7 0 = v13 := (f54 _ _ (fun q => by have z := ta7; rw [q.1, ta0] at z; exact absurd z (by decide))).trans c14
    have c57 : I51 a7 1 = v15 := (f54 _ _ (fun q => absurd q.2 (by decide))).trans c16
    have c58 : I51 a7 2 = v18 := (f54 _ _ (fun q => absurd q.2 (by decide))).trans c19
    refine tr_aload_n dX12_back_5 rfl ?_
    refine tr_getR dX12_back_6 fl12_385 (kR15 hS52.1 ta0) d22 ?_
    refine tr_ifnull dX12_back_9 ?_
    refine tr_iload_n dX12_back_12 rfl ?_
    refine q_if_lt 24 dX12_back_13 (by decide) (fun h59 => ?_) (fun h59 => ?_)
    · skip
      refine tr_aload_n dX12_back_24 rfl ?_
      refine q_iconst dX12_back_25 (by decide) ?_
      intro v60 h61
      refine q_callVi hE (M' := mX12_denied) (as := [_]) dX12_back_26 lk12_507 inX12_denied seX12_denied myX12_denied (by decide) ⟨by decide, by decide⟩ rfl (kR15 hS52.1 ta0) (Nat.le_of_ble_eq_true rfl) rfl rfl (by decide) (by decide) (fk_X12_denied hS52.1  ta0) ?_
      rintro v67 cn' K' N' I62 R63 L64 ⟨rfl, rfl, rfl, rfl, rfl, g65, h68, p69, -⟩
      have hS70 := hS52.tr g65 (by decide +kernel) (by decide +kernel)
      have c71 : I62 a0 19 = v4 := (g65.cell ta0 (by decide +kernel)).trans c55
      have c72 : I62 a7 0 = v13 := (g65.cell ta7 (by decide +kernel)).trans c56
      have c73 : I62 a7 1 = v15 := (g65.cell ta7 (by decide +kernel)).trans c57
      have c74 : I62 a7 2 = v18 := (g65.cell ta7 (by decide +kernel)).trans c58
      have c75 : I62 a0 0 = v49 := (g65.cell ta0 (by decide +kernel)).trans e53
      exact tr_zret hZ dX12_back_29 rfl (ti_b01 (by exact om_d99fa9e4 p69) (by exact om_d3de7ec9 p69)) (by decide) (by decide) ⟨v67, rfl, rfl, rfl, rfl, rfl, rfl, hS70, (by exact om_be53a44c h68), (Or.inr (Or.inl ⟨(by (try rw [c2]); first | done | with_reducible assumption | exact om_82eb7c5a h59), (by first | done | with_reducible assumption | omega), ⟨_, d22⟩, ⟨(c71).trans (c5).symm, (((hS70.cell ta0 (by decide +kernel)).trans c2)).trans (c2).symm, fun a j h => by rcases h with h | h | h; exact ((g65.cell h (wm_no (by decide +kernel))).trans (f54 _ _ (fun q => by have z := h; rw [q.1, ta0] at z; exact absurd z (by decide)))); exact ((g65.cell h (wm_no (by decide +kernel))).trans (f54 _ _ (fun q => by have z := h; rw [q.1, ta0] at z; exact absurd z (by decide)))); exact ((g65.cell h (wm_no (by decide +kernel))).trans (f54 _ _ (fun q => by have z := h; rw [q.1, ta0] at z; exact absurd z (by decide))))⟩, trivial⟩)), trivial⟩
    · skip
      refine tr_iload_n dX12_back_16 rfl ?_
      refine tr_aload_n dX12_back_17 rfl ?_
      refine q_getI dX12_back_18 fl12_390 (kR15 hS52.1 ta0) ((hS52.cell ta0 (by decide +kernel)).trans c2) ?_
      refine q_icmp_lt 30 dX12_back_21 (by decide) (fun h76 => ?_) (fun h76 => ?_)
      · skip
        refine q_iconst dX12_back_30 (by decide) ?_
        intro v77 h78
        refine tr_istore_n dX12_back_31 (by decide) (by decide) ?_
        have lp88 : ∀ (fu : Nat) (ls : Nat → Option Value) (v79 : Int32) (I83 : cz_I), ls 0 = some (.ref a0) → ls 1 = some (.int x1) → ls 2 = some (.int v79) → St T cn K N d wik_X12_back wrk_X12_back I0 R0 I83 R0 → 0 ≤ v79.toInt → v79.toInt ≤ 15 → (CwI I0 I83 a7 a11 (15 * x1.toInt) v79.toInt) → (-v79.toInt + 2147483647).toNat < fu → Tr X mX12_back 32 ls [] cn K N I83 R0 L0 0 0 := by
          intro fu
          induction fu with
          | zero => intros; rename_i hz; exact absurd hz (Nat.not_lt_zero _)
          | succ fu ih88 =>
            intro ls v79 I83 hl80 hl81 hl82 hS84 g85 g86 rw87 hm88
            refine tr_iload_n dX12_back_32 hl82 ?_
            refine q_bipush dX12_back_33 (by decide +kernel) ?_
            intro v90 h91
            refine q_icmp_ge 61 dX12_back_35 (by decide) (fun h92 => ?_) (fun h92 => ?_)
            · skip
              refine tr_aload_n dX12_back_61 hl80 ?_
              refine q_iconst dX12_back_62 (by decide) ?_
              intro v93 h94
              refine q_putI dX12_back_63 fl12_387 (kR15 hS84.1 ta0) (Or.inl rfl) hS84 ta0 (by show (0 : Int) ≤ v93.toInt ∧ v93.toInt ≤ (12 : Int); exact om_dbf687ed h94) rfl (by decide +kernel) ?_
              intro I95 hS96 e97 f98
              refine tr_aload_n dX12_back_66 hl80 ?_
              refine q_callVi hE (M' := mX12_granted) (as := []) dX12_back_67 lk12_513 inX12_granted seX12_granted myX12_granted (by decide) ⟨by decide, by decide⟩ rfl (kR15 hS96.1 ta0) (Nat.le_of_ble_eq_true rfl) rfl rfl (by decide) (by decide) (fk_X12_granted hS96.1  ta0) ?_
              rintro v104 cn' K' N' I99 R100 L101 ⟨rfl, rfl, rfl, rfl, rfl, g102, h105, p106, -⟩
              have hS107 := hS96.tr g102 (by decide +kernel) (by decide +kernel)
              have c108 : I99 a0 19 = v93 := (g102.cell ta0 (by decide +kernel)).trans e97
              exact tr_zret hZ dX12_back_70 rfl (ti_b01 (by exact om_f9079521 p106) (by exact om_e6632817 p106)) (by decide) (by decide) ⟨v104, rfl, rfl, rfl, rfl, rfl, rfl, hS107, (by exact om_be53a44c h105), (Or.inr (Or.inr (⟨(by first | done | with_reducible assumption | omega), (by (try rw [c2]); first | done | with_reducible assumption | omega), (by first | done | with_reducible assumption | omega), (by (try rw [c108]); first | done | with_reducible assumption | omega), ⟨_, d22⟩, (fun w p hw hp c hc => by obtain rfl := Option.some.inj (d8.symm.trans hw); obtain rfl := Option.some.inj (d12.symm.trans hp); rw [show I99 a7 c = _ from ((g102.cell ta7 (wm_no (by decide +kernel))).trans (f98 _ _ (fun q => by have z := ta7; rw [q.1, ta0] at z; exact absurd z (by decide)))), rw87 c (by exact om_f7185e3a h91 h92 hc)]; congr 1; exact om_1414dc57 h59), trivial⟩))), trivial⟩
            · skip
              refine tr_aload_n dX12_back_38 hl80 ?_
              refine tr_getR dX12_back_39 fl12_17 (kR15 hS84.1 ta0) d8 ?_
              refine tr_iload_n dX12_back_42 hl82 ?_
              refine tr_aload_n dX12_back_43 hl80 ?_
              refine tr_getR dX12_back_44 fl12_24 (kR15 hS84.1 ta0) d12 ?_
              refine q_bipush dX12_back_47 (by decide +kernel) ?_
              intro v109 h110
              refine tr_iload_n dX12_back_49 hl81 ?_
              refine q_imulE (c := 15) dX12_back_50 (by exact om_e7c7fe43 h110) (by exact om_01697c93 b3.2 b3.1 h59 h76) ?_
              intro v111 h112
              refine tr_iload_n dX12_back_51 hl82 ?_
              refine q_iaddE dX12_back_52 (by intro j1 j2 j3 j4; exact om_29fdb194 b3.2 b3.1 h59 h76 g85 g86 h112 j1 j2) ?_
              intro v113 h114
              refine q_iald dX12_back_53 (kR79 hS84.1 ta11) (ti_in (nR79 hS84.1 ta11) (by exact om_85e95520 b3.2 b3.1 h59 h76 g85 g86 h91 h92 h112 h114) (by exact om_24e04dd4 b3.2 b3.1 h59 h76 g85 g86 h91 h92 h112 h114)) ?_
              intro v115 c116
              refine q_iast dX12_back_54 (kR77 hS84.1 ta7) (ti_in (nR77 hS84.1 ta7) (by exact om_2cfcd5a5 g85) (by exact om_f9e0e915 g85 g86 h91 h92 h112 h114)) hS84 ta7 (iok_w (r := 79) rfl rfl (by have q := ti_nat (i := v79) (by exact om_2cfcd5a5 g85); have q2 := ti_nat (i := v113) (by exact om_a7e43df9 b3.2 b3.1 h59 h76 g85 g86 h91 h92 h112 h114 q); exact om_fcd81f1d h112 h114 q q2) (hS84.1.iv ta11 c116)) rfl (by rfl) ?_
              intro I118 hS119 e121 f120
              refine q_iincE dX12_back_55 hl82 (by decide) (by decide) (by intro j1 j2; exact om_4853dbec g85 g86 h91 h92 h112 h114) ?_
              intro v122 h123
              refine tr_goto 32 dX12_back_58 (by decide) ?_
              exact ih88 _ v122 I118 hl80 hl81 rfl hS119 (by exact om_953278a5 g85 g86 h91 h92 h112 h114 h123) (by exact om_03093957 g85 g86 h91 h92 h112 h114 h123) (CwI.stp (j := v79.toNatClampNeg) rw87 (by exact om_2cfcd5a5 g85) (ti_nat (by exact om_2cfcd5a5 g85)) (by exact om_764ef139 h123) ((hS84.cell ta11 (wm_no (by decide +kernel))).symm.trans (by have z := c116; rw [show v113.toNatClampNeg = (15 * x1.toInt).toNat + v79.toInt.toNat by have q := ti_nat (i := v113) (by exact om_f5ccefa1 b3.2 b3.1 h59 h76 g85 g86 h91 h92 h112 h114 h123); exact om_821131c4 h59 g85 g86 h91 h92 h112 h114 h123 q] at z; exact z)) e121 f120) (by exact om_b68903ea g85 g86 hm88 h91 h92 h112 h114 h123)
        exact lp88 _ _ v77 I51 rfl rfl rfl hS52 (by exact om_d99fa9e4 h78) (by exact om_a15f8564 h78) (fun c hc => by omega) (Nat.lt_succ_self _)
      · skip
        refine tr_aload_n dX12_back_24 rfl ?_
        refine q_iconst dX12_back_25 (by decide) ?_
        intro v124 h125
        refine q_callVi hE (M' := mX12_denied) (as := [_]) dX12_back_26 lk12_507 inX12_denied seX12_denied myX12_denied (by decide) ⟨by decide, by decide⟩ rfl (kR15 hS52.1 ta0) (Nat.le_of_ble_eq_true rfl) rfl rfl (by decide) (by decide) (fk_X12_denied hS52.1  ta0) ?_
        rintro v131 cn' K' N' I126 R127 L128 ⟨rfl, rfl, rfl, rfl, rfl, g129, h132, p133, -⟩
        have hS134 := hS52.tr g129 (by decide +kernel) (by decide +kernel)
        have c135 : I126 a0 19 = v4 := (g129.cell ta0 (by decide +kernel)).trans c55
        have c136 : I126 a7 0 = v13 := (g129.cell ta7 (by decide +kernel)).trans c56
        have c137 : I126 a7 1 = v15 := (g129.cell ta7 (by decide +kernel)).trans c57
        have c138 : I126 a7 2 = v18 := (g129.cell ta7 (by decide +kernel)).trans c58
        have c139 : I126 a0 0 = v49 := (g129.cell ta0 (by decide +kernel)).trans e53
        exact tr_zret hZ dX12_back_29 rfl (ti_b01 (by exact om_d99fa9e4 p133) (by exact om_d3de7ec9 p133)) (by decide) (by decide) ⟨v131, rfl, rfl, rfl, rfl, rfl, rfl, hS134, (by exact om_be53a44c h132), (Or.inr (Or.inl ⟨(by (try rw [c2]); first | done | with_reducible assumption | exact om_0273c8de h76), (by first | done | with_reducible assumption | omega), ⟨_, d22⟩, ⟨(c135).trans (c5).symm, (((hS134.cell ta0 (by decide +kernel)).trans c2)).trans (c2).symm, fun a j h => by rcases h with h | h | h; exact ((g129.cell h (wm_no (by decide +kernel))).trans (f54 _ _ (fun q => by have z := h; rw [q.1, ta0] at z; exact absurd z (by decide)))); exact ((g129.cell h (wm_no (by decide +kernel))).trans (f54 _ _ (fun q => by have z := h; rw [q.1, ta0] at z; exact absurd z (by decide)))); exact ((g129.cell h (wm_no (by decide +kernel))).trans (f54 _ _ (fun q => by have z := h; rw [q.1, ta0] at z; exact absurd z (by decide))))⟩, trivial⟩)), trivial⟩
def wik_X12_mark : List Nat := [960, 961, 962, 980, 5119]
def wrk_X12_mark : List Nat := []
def Cs_X12_mark (T : Nat → Nat) (I0 : cz_I) (R0 : cz_R) (a0 : Nat) (v : Int32) (I' : cz_I) (R' : cz_R) : Prop :=
  ((v.toInt = -1) ∧ (R0 a0 3 = none) ∧ (SmM T I0 I' a0) ∧ True) ∨
  (((I0 a0 20).toInt = 3) ∧ (v.toInt = -1) ∧ (∃ b, R0 a0 3 = some b) ∧ (SmM T I0 I' a0) ∧ True) ∨
  (((I0 a0 20).toInt ≤ 2) ∧ (v.toInt = (I0 a0 20).toInt) ∧ ((I' a0 20).toInt = (I0 a0 20).toInt + 1) ∧ (∃ b, R0 a0 3 = some b) ∧ (∀ w p, R0 a0 16 = some w → R0 a0 18 = some p → (∀ k : Nat, (k : Int) < 15 * (I0 a0 20).toInt → I' p k = I0 p k) ∧ ∀ c : Nat, c < 15 → I' p (15 * (I0 a0 20).toInt.toNat + c) = I0 w c) ∧ True)
set_option maxHeartbeats 4000000 in
theorem fk_X12_mark {l : Launch} {T : Nat → Nat} {cn : Nat} {K N : Nat → Nat} {I0 : cz_I} {R0 : cz_R} {L0 : cz_L} {d : Int} (hW0 : Wf T cn K N I0 R0 d)  {a0 : Nat} (ta0 : T a0 = 15) : ConE l mX12_mark [.ref a0] cn K N I0 R0 L0 (ca_i (fun v cn' K' N' I' R' L' => cn = cn' ∧ K = K' ∧ N = N' ∧ R0 = R' ∧ L0 = L' ∧ St T cn K N d wik_X12_mark wrk_X12_mark I0 R0 I' R0 ∧ Cs_X12_mark T I0 R0 a0 v I' R0 ∧ True)) := by
  refine ConE.of (by decide +kernel) rfl (Nat.le_of_ble_eq_true rfl) rfl (fun X hX hZ hE => ?_)
  subst hX
  have hS0 : St T cn K N d wik_X12_mark wrk_X12_mark I0 R0 I0 R0 := St.rf0 hW0
  obtain ⟨v1, c2⟩ : ∃ v, I0 a0 20 = v := ⟨_, rfl⟩
  have b3 := iv15_20 hS0.1 ta0 c2
  obtain ⟨v4, c5⟩ : ∃ v, I0 a0 19 = v := ⟨_, rfl⟩
  have b6 := iv15_19 hW0 ta0 c5
  obtain ⟨a7, d8, ta7⟩ := rf15_16 hW0 ta0
  obtain ⟨a9, d10, ta9⟩ := rf15_17 hW0 ta0
  obtain ⟨a11, d12, ta11⟩ := rf15_18 hW0 ta0
  obtain ⟨v13, c14⟩ : ∃ v, I0 a7 0 = v := ⟨_, rfl⟩
  obtain ⟨v15, c16⟩ : ∃ v, I0 a7 1 = v := ⟨_, rfl⟩
  have b17 := iv77_1 hW0 ta7 (by decide) c16
  obtain ⟨v18, c19⟩ : ∃ v, I0 a7 2 = v := ⟨_, rfl⟩
  have b20 := iv77_2 hW0 ta7 (by decide) c19
  rcases rf15_3 hW0 ta0 with d22 | ⟨a21, d22, ta21⟩
  · skip
    refine tr_aload_n dX12_mark_0 rfl ?_
    refine q_iconst dX12_mark_1 (by decide) ?_
    intro v23 h24
    refine q_putI dX12_mark_2 fl12_70 (kR15 hS0.1 ta0) (Or.inl rfl) hS0 ta0 (iokF rfl) rfl (by decide +kernel) ?_
    intro I25 hS26 e27 f28
    have c29 : I25 a0 20 = v1 := (f28 _ _ (fun q => absurd q.2 (by decide))).trans c2
    refine tr_aload_n dX12_mark_5 rfl ?_
    refine tr_getN dX12_mark_6 fl12_385 (kR15 hS26.1 ta0) d22 ?_
    refine tr_ifnonnullN dX12_mark_9 ?_
    refine tr_aload_n dX12_mark_12 rfl ?_
    refine q_iconst dX12_mark_13 (by decide) ?_
    intro v30 h31
    refine q_callVi hE (M' := mX12_refused) (as := [_]) dX12_mark_14 lk12_76 inX12_refused seX12_refused myX12_refused (by decide) ⟨by decide, by decide⟩ rfl (kR15 hS26.1 ta0) (Nat.le_of_ble_eq_true rfl) rfl rfl (by decide) (by decide) (fk_X12_refused hS26.1  ta0) ?_
    rintro v37 cn' K' N' I32 R33 L34 ⟨rfl, rfl, rfl, rfl, rfl, g35, p38, p39, p40, -⟩
    have hS41 := hS26.tr g35 (by decide +kernel) (by decide +kernel)
    have c42 : I32 a0 20 = v1 := (g35.cell ta0 (by decide +kernel)).trans c29
    have c43 : I32 a0 0 = v23 := (g35.cell ta0 (by decide +kernel)).trans e27
    obtain ⟨v44, c45⟩ : ∃ v, I32 a0 1 = v := ⟨_, rfl⟩
    rw [c45] at p39
    obtain ⟨v46, c47⟩ : ∃ v, I32 a0 2 = v := ⟨_, rfl⟩
    rw [c47] at p40
    exact tr_iret hZ dX12_mark_17 rfl (by decide) (by decide) ⟨v37, rfl, rfl, rfl, rfl, rfl, rfl, hS41, (Or.inl ⟨(by first | done | with_reducible assumption | omega), d22, ⟨(((hS41.cell ta0 (by decide +kernel)).trans c5)).trans (c5).symm, (c42).trans (c2).symm, fun a j h => by rcases h with h | h | h; exact ((g35.cell h (wm_no (by decide +kernel))).trans (f28 _ _ (fun q => by have z := h; rw [q.1, ta0] at z; exact absurd z (by decide)))); exact ((g35.cell h (wm_no (by decide +kernel))).trans (f28 _ _ (fun q => by have z := h; rw [q.1, ta0] at z; exact absurd z (by decide)))); exact ((g35.cell h (wm_no (by decide +kernel))).trans (f28 _ _ (fun q => by have z := h; rw [q.1, ta0] at z; exact absurd z (by decide))))⟩, trivial⟩), trivial⟩
  · skip
    refine tr_aload_n dX12_mark_0 rfl ?_
    refine q_iconst dX12_mark_1 (by decide) ?_
    intro v48 h49
    refine q_putI dX12_mark_2 fl12_70 (kR15 hS0.1 ta0) (Or.inl rfl) hS0 ta0 (iokF rfl) rfl (by decide +kernel) ?_
    intro I50 hS51 e52 f53
    have c54 : I50 a0 20 = v1 := (f53 _ _ (fun q => absurd q.2 (by decide))).trans c2
    refine tr_aload_n dX12_mark_5 rfl ?_
    refine tr_getR dX12_mark_6 fl12_385 (kR15 hS51.1 ta0) d22 ?_
    refine tr_ifnonnull 18 dX12_mark_9 (by decide) ?_
    refine tr_aload_n dX12_mark_18 rfl ?_
    refine q_getI dX12_mark_19 fl12_390 (kR15 hS51.1 ta0) c54 ?_
    refine q_iconst dX12_mark_22 (by decide) ?_
    intro v55 h56
    refine q_icmp_ne 32 dX12_mark_23 (by decide) (fun h57 => ?_) (fun h57 => ?_)
    · skip
      refine q_iconst dX12_mark_32 (by decide) ?_
      intro v58 h59
      refine tr_istore_n dX12_mark_33 (by decide) (by decide) ?_
      have lp72 : ∀ (fu : Nat) (ls : Nat → Option Value) (v60 : Int32) (I63 : cz_I) (v65 : Int32), ls 0 = some (.ref a0) → ls 1 = some (.int v60) → St T cn K N d wik_X12_mark wrk_X12_mark I0 R0 I63 R0 → I63 a0 20 = v65 → v65.toInt = v1.toInt → v65.toInt ≤ 2 → 0 ≤ v60.toInt → v60.toInt ≤ 15 → (CpI (fun k => I0 a11 k) I0 I63 a7 a11 (15 * v65.toInt) v60.toInt) → (-v60.toInt + 2147483647).toNat < fu → Tr X mX12_mark 34 ls [] cn K N I63 R0 L0 0 0 := by
        intro fu
        induction fu with
        | zero => intros; rename_i hz; exact absurd hz (Nat.not_lt_zero _)
        | succ fu ih72 =>
          intro ls v60 I63 v65 hl61 hl62 hS64 c66 g67 g68 g69 g70 rw71 hm72
          have b74 := iv15_20 hS64.1 ta0 c66
          refine tr_iload_n dX12_mark_34 hl62 ?_
          refine q_bipush dX12_mark_35 (by decide +kernel) ?_
          intro v75 h76
          refine q_icmp_ge 66 dX12_mark_37 (by decide) (fun h77 => ?_) (fun h77 => ?_)
          · skip
            refine tr_aload_n dX12_mark_66 hl61 ?_
            refine tr_dup dX12_mark_67 rfl ?_
            refine q_getI dX12_mark_68 fl12_390 (kR15 hS64.1 ta0) c66 ?_
            refine q_iconst dX12_mark_71 (by decide) ?_
            intro v78 h79
            refine q_iaddE dX12_mark_72 (by intro j1 j2 j3 j4; exact om_dd6150a1 b3.2 b3.1 g67 g68 h79) ?_
            intro v80 h81
            refine q_putI dX12_mark_73 fl12_390 (kR15 hS64.1 ta0) (Or.inl rfl) hS64 ta0 (by show (0 : Int) ≤ v80.toInt ∧ v80.toInt ≤ (3 : Int); exact om_c5f51fa0 b3.2 b3.1 g67 g68 h79 h81) rfl (by decide +kernel) ?_
            intro I82 hS83 e84 f85
            refine tr_aload_n dX12_mark_76 hl61 ?_
            refine tr_aload_n dX12_mark_77 hl61 ?_
            refine q_getI dX12_mark_78 fl12_390 (kR15 hS83.1 ta0) e84 ?_
            refine q_iconst dX12_mark_81 (by decide) ?_
            intro v86 h87
            refine q_isubE dX12_mark_82 (by intro j1 j2 j3 j4; exact om_b5a8ea19 b3.2 b3.1 g67 g68 h79 h81 h87) ?_
            intro v88 h89
            refine q_callVi hE (M' := mX12_good) (as := [_]) dX12_mark_83 lk12_81 inX12_good seX12_good myX12_good (by decide) ⟨by decide, by decide⟩ rfl (kR15 hS83.1 ta0) (Nat.le_of_ble_eq_true rfl) rfl rfl (by decide) (by decide) (fk_X12_good hS83.1  ta0) ?_
            rintro v95 cn' K' N' I90 R91 L92 ⟨rfl, rfl, rfl, rfl, rfl, g93, p96, p97, p98, -⟩
            have hS99 := hS83.tr g93 (by decide +kernel) (by decide +kernel)
            have c100 : I90 a0 20 = v80 := (g93.cell ta0 (by decide +kernel)).trans e84
            obtain ⟨v101, c102⟩ : ∃ v, I90 a0 1 = v := ⟨_, rfl⟩
            rw [c102] at p97
            obtain ⟨v103, c104⟩ : ∃ v, I90 a0 2 = v := ⟨_, rfl⟩
            rw [c104] at p98
            exact tr_iret hZ dX12_mark_86 rfl (by decide) (by decide) ⟨v95, rfl, rfl, rfl, rfl, rfl, rfl, hS99, (Or.inr (Or.inr (⟨(by (try rw [c2]); first | done | with_reducible assumption | exact om_9a0ec58d b3.2 b3.1 g67 g68 h79 h81 h87 h89 p96), (by (try rw [c2]); first | done | with_reducible assumption | exact om_f2670edb g67 h79 h81 h87 h89 p96), (by (try rw [c100]); (try rw [c2]); first | done | with_reducible assumption | exact om_58c7f992 g67 h79 h81), ⟨_, d22⟩, (fun w p hw hp => by obtain rfl := Option.some.inj (d8.symm.trans hw); obtain rfl := Option.some.inj (d12.symm.trans hp); rw [c2]; exact ⟨fun k hk => (((g93.cell ta11 (wm_no (by decide +kernel))).trans (f85 _ _ (fun q => by have z := ta11; rw [q.1, ta0] at z; exact absurd z (by decide))))).trans (rw71.1 k (by exact om_dd641bdb g67 h79 h81 h87 h89 p96 hk)), fun c hc => by have z := rw71.2 c (by exact om_f7185e3a h76 h77 hc); rw [← z]; exact (((g93.cell ta11 (wm_no (by decide +kernel))).trans (f85 _ _ (fun q => by have z := ta11; rw [q.1, ta0] at z; exact absurd z (by decide))))).trans (by congr 1; exact om_074363b5 b3.2 b3.1 g67 g68 h79 h81 h87 h89 p96)⟩), trivial⟩))), trivial⟩
          · skip
            refine tr_aload_n dX12_mark_40 hl61 ?_
            refine tr_getR dX12_mark_41 fl12_24 (kR15 hS64.1 ta0) d12 ?_
            refine q_bipush dX12_mark_44 (by decide +kernel) ?_
            intro v105 h106
            refine tr_aload_n dX12_mark_46 hl61 ?_
            refine q_getI dX12_mark_47 fl12_390 (kR15 hS64.1 ta0) c66 ?_
            refine q_imulE (c := 15) dX12_mark_50 (by exact om_e7c7fe43 h106) (by exact om_bc5bb341 b3.2 b3.1 g67 g68) ?_
            intro v107 h108
            refine tr_iload_n dX12_mark_51 hl62 ?_
            refine q_iaddE dX12_mark_52 (by intro j1 j2 j3 j4; exact om_8db57465 b3.2 b3.1 g67 g68 g69 g70 h76 h77 h108 j1 j2) ?_
            intro v109 h110
            refine tr_aload_n dX12_mark_53 hl61 ?_
            refine tr_getR dX12_mark_54 fl12_17 (kR15 hS64.1 ta0) d8 ?_
            refine tr_iload_n dX12_mark_57 hl62 ?_
            refine q_iald dX12_mark_58 (kR77 hS64.1 ta7) (ti_in (nR77 hS64.1 ta7) (by exact om_2cfcd5a5 g69) (by exact om_f9e0e915 g69 g70 h76 h77 h108 h110)) ?_
            intro v111 c112
            refine q_iast dX12_mark_59 (kR79 hS64.1 ta11) (ti_in (nR79 hS64.1 ta11) (by exact om_5828d356 b3.2 b3.1 g67 g68 g69 g70 h76 h77 h108 h110) (by exact om_b5d05f66 b3.2 b3.1 g67 g68 g69 g70 h76 h77 h108 h110)) hS64 ta11 (iok_w (r := 77) rfl rfl (by have q := ti_nat (i := v109) (by exact om_5828d356 b3.2 b3.1 g67 g68 g69 g70 h76 h77 h108 h110); have q2 := ti_nat (i := v60) (by exact om_2cfcd5a5 g69); exact om_79477dc6 h108 h110 q q2) (hS64.1.iv ta7 c112)) rfl (by rfl) ?_
            intro I114 hS115 e117 f116
            have c118 : I114 a0 20 = v65 := (f116 _ _ (fun q => by have z := ta0; rw [q.1, ta11] at z; exact absurd z (by decide))).trans c66
            refine q_iincE dX12_mark_60 hl62 (by decide) (by decide) (by intro j1 j2; exact om_4853dbec g69 g70 h76 h77 h108 h110) ?_
            intro v119 h120
            refine tr_goto 34 dX12_mark_63 (by decide) ?_
            exact ih72 _ v119 I114 v65 hl61 rfl hS115 c118 (by exact om_acd7a85a g67) (by exact om_c05e518b g68) (by exact om_953278a5 g69 g70 h76 h77 h108 h110 h120) (by exact om_03093957 g69 g70 h76 h77 h108 h110 h120) (CpI.stp (j := v109.toNatClampNeg) rw71 (by exact om_08f3577e b3.2 b3.1 g67 g68) (by exact om_2cfcd5a5 g69) (by have q := ti_nat (i := v109) (by exact om_b5526dad b3.2 b3.1 g67 g68 g69 g70 h76 h77 h108 h110 h120); exact om_99d1c62e h108 h110 h120 q) (by exact om_764ef139 h120) ((hS64.cell ta7 (wm_no (by decide +kernel))).symm.trans c112) e117 f116) (by exact om_b68903ea g69 g70 hm72 h76 h77 h108 h110 h120)
      exact lp72 _ _ v58 I50 v1 rfl rfl hS51 c54 (by exact om_4ee7209a) (by exact om_c27a86fe b3.2 b3.1 h56 h57) (by exact om_d99fa9e4 h59) (by exact om_a15f8564 h59) ⟨fun k _ => (f53 _ _ (fun q => by have z := ta11; rw [q.1, ta0] at z; exact absurd z (by decide))), fun c hc => by omega⟩ (Nat.lt_succ_self _)
    · skip
      refine tr_aload_n dX12_mark_26 rfl ?_
      refine q_iconst dX12_mark_27 (by decide) ?_
      intro v121 h122
      refine q_callVi hE (M' := mX12_refused) (as := [_]) dX12_mark_28 lk12_76 inX12_refused seX12_refused myX12_refused (by decide) ⟨by decide, by decide⟩ rfl (kR15 hS51.1 ta0) (Nat.le_of_ble_eq_true rfl) rfl rfl (by decide) (by decide) (fk_X12_refused hS51.1  ta0) ?_
      rintro v128 cn' K' N' I123 R124 L125 ⟨rfl, rfl, rfl, rfl, rfl, g126, p129, p130, p131, -⟩
      have hS132 := hS51.tr g126 (by decide +kernel) (by decide +kernel)
      have c133 : I123 a0 20 = v1 := (g126.cell ta0 (by decide +kernel)).trans c54
      have c134 : I123 a0 0 = v48 := (g126.cell ta0 (by decide +kernel)).trans e52
      obtain ⟨v135, c136⟩ : ∃ v, I123 a0 1 = v := ⟨_, rfl⟩
      rw [c136] at p130
      obtain ⟨v137, c138⟩ : ∃ v, I123 a0 2 = v := ⟨_, rfl⟩
      rw [c138] at p131
      exact tr_iret hZ dX12_mark_31 rfl (by decide) (by decide) ⟨v128, rfl, rfl, rfl, rfl, rfl, rfl, hS132, (Or.inr (Or.inl ⟨(by (try rw [c2]); first | done | with_reducible assumption | exact om_e7da7805 h56 h57), (by first | done | with_reducible assumption | omega), ⟨_, d22⟩, ⟨(((hS132.cell ta0 (by decide +kernel)).trans c5)).trans (c5).symm, (c133).trans (c2).symm, fun a j h => by rcases h with h | h | h; exact ((g126.cell h (wm_no (by decide +kernel))).trans (f53 _ _ (fun q => by have z := h; rw [q.1, ta0] at z; exact absurd z (by decide)))); exact ((g126.cell h (wm_no (by decide +kernel))).trans (f53 _ _ (fun q => by have z := h; rw [q.1, ta0] at z; exact absurd z (by decide)))); exact ((g126.cell h (wm_no (by decide +kernel))).trans (f53 _ _ (fun q => by have z := h; rw [q.1, ta0] at z; exact absurd z (by decide))))⟩, trivial⟩)), trivial⟩
def wik_X12_lost : List Nat := [961, 962]
def wrk_X12_lost : List Nat := []
set_option maxHeartbeats 4000000 in
theorem fk_X12_lost {l : Launch} {T : Nat → Nat} {cn : Nat} {K N : Nat → Nat} {I0 : cz_I} {R0 : cz_R} {L0 : cz_L} {d : Int} (hW0 : Wf T cn K N I0 R0 d)  {a0 : Nat} (ta0 : T a0 = 15) {x1 : Int32} : ConE l mX12_lost [.ref a0, .int x1] cn K N I0 R0 L0 (ca_i (fun v cn' K' N' I' R' L' => cn = cn' ∧ K = K' ∧ N = N' ∧ R0 = R' ∧ L0 = L' ∧ St T cn K N d wik_X12_lost wrk_X12_lost I0 R0 I' R0 ∧ (v.toInt = -100000) ∧ True)) := by
  refine ConE.of (by decide +kernel) rfl (Nat.le_of_ble_eq_true rfl) rfl (fun X hX hZ hE => ?_)
  subst hX
  have hS0 : St T cn K N d wik_X12_lost wrk_X12_lost I0 R0 I0 R0 := St.rf0 hW0
  refine tr_aload_n dX12_lost_0 rfl ?_
  refine tr_iload_n dX12_lost_1 rfl ?_
  refine q_callVi hE (M' := mX12_refused) (as := [_]) dX12_lost_2 lk12_76 inX12_refused seX12_refused myX12_refused (by decide) ⟨by decide, by decide⟩ rfl (kR15 hS0.1 ta0) (Nat.le_of_ble_eq_true rfl) rfl rfl (by decide) (by decide) (fk_X12_refused hS0.1  ta0) ?_
  rintro v6 cn' K' N' I1 R2 L3 ⟨rfl, rfl, rfl, rfl, rfl, g4, p7, p8, p9, -⟩
  have hS10 := hS0.tr g4 (by decide +kernel) (by decide +kernel)
  obtain ⟨v11, c12⟩ : ∃ v, I1 a0 1 = v := ⟨_, rfl⟩
  rw [c12] at p8
  obtain ⟨v13, c14⟩ : ∃ v, I1 a0 2 = v := ⟨_, rfl⟩
  rw [c14] at p9
  refine tr_pop dX12_lost_5 rfl ?_
  refine q_ldc (-100000) dX12_lost_6 ld12_80 (by decide +kernel) ?_
  intro v15 h16
  exact tr_iret hZ dX12_lost_8 rfl (by decide) (by decide) ⟨v15, rfl, rfl, rfl, rfl, rfl, rfl, hS10, (by first | done | with_reducible assumption | omega), trivial⟩
def wik_X12_nights : List Nat := [960, 961, 962, 4991, 5183, 5247, 5311, 5375, 5439, 5503, 5567, 5631, 5695, 5759, 5823, 5887, 5951, 6015]
def wrk_X12_nights : List Nat := []
set_option maxHeartbeats 4000000 in
theorem fk_X12_nights {l : Launch} {T : Nat → Nat} {cn : Nat} {K N : Nat → Nat} {I0 : cz_I} {R0 : cz_R} {L0 : cz_L} {d : Int} (hW0 : Wf T cn K N I0 R0 d)  {a0 : Nat} (ta0 : T a0 = 15) {x1 : Int32} {x2 : Int32} {x3 : Int32} : ConE l mX12_nights [.ref a0, .int x1, .int x2, .int x3] cn K N I0 R0 L0 (ca_i (fun v cn' K' N' I' R' L' => cn = cn' ∧ K = K' ∧ N = N' ∧ R0 = R' ∧ L0 = L' ∧ St T cn K N d wik_X12_nights wrk_X12_nights I0 R0 I' R0 ∧ (∀ w, R0 a0 16 = some w → ∀ c : Nat, c < 15 → I' w c = I0 w c) ∧ True)) := by
  refine ConE.of (by decide +kernel) rfl (Nat.le_of_ble_eq_true rfl) rfl (fun X hX hZ hE => ?_)
  subst hX
  have hS0 : St T cn K N d wik_X12_nights wrk_X12_nights I0 R0 I0 R0 := St.rf0 hW0
  obtain ⟨a1, d2, ta1⟩ := rf15_16 hW0 ta0
  obtain ⟨a3, d4, ta3⟩ := rf15_35 hW0 ta0
  rcases rf15_3 hW0 ta0 with d6 | ⟨a5, d6, ta5⟩
  · skip
    refine tr_aload_n dX12_nights_0 rfl ?_
    refine q_iconst dX12_nights_1 (by decide) ?_
    intro v7 h8
    refine q_putI dX12_nights_2 fl12_70 (kR15 hS0.1 ta0) (Or.inl rfl) hS0 ta0 (iokF rfl) rfl (by decide +kernel) ?_
    intro I9 hS10 e11 f12
    refine tr_aload_n dX12_nights_5 rfl ?_
    refine tr_getN dX12_nights_6 fl12_385 (kR15 hS10.1 ta0) d6 ?_
    refine tr_ifnonnullN dX12_nights_9 ?_
    refine tr_aload_n dX12_nights_12 rfl ?_
    refine q_iconst dX12_nights_13 (by decide) ?_
    intro v13 h14
    refine q_callVi hE (M' := mX12_lost) (as := [_]) dX12_nights_14 lk12_458 inX12_lost seX12_lost myX12_lost (by decide) ⟨by decide, by decide⟩ rfl (kR15 hS10.1 ta0) (Nat.le_of_ble_eq_true rfl) rfl rfl (by decide) (by decide) (fk_X12_lost hS10.1  ta0) ?_
    rintro v20 cn' K' N' I15 R16 L17 ⟨rfl, rfl, rfl, rfl, rfl, g18, p21, -⟩
    have hS22 := hS10.tr g18 (by decide +kernel) (by decide +kernel)
    have c23 : I15 a0 0 = v7 := (g18.cell ta0 (by decide +kernel)).trans e11
    exact tr_iret hZ dX12_nights_17 rfl (by decide) (by decide) ⟨v20, rfl, rfl, rfl, rfl, rfl, rfl, hS22, (fun w hw c hc => by obtain rfl := Option.some.inj (d2.symm.trans hw); exact (((g18.cell ta1 (wm_no (by decide +kernel))).trans (f12 _ _ (fun q => by have z := ta1; rw [q.1, ta0] at z; exact absurd z (by decide)))))), trivial⟩
  · skip
    refine tr_aload_n dX12_nights_0 rfl ?_
    refine q_iconst dX12_nights_1 (by decide) ?_
    intro v24 h25
    refine q_putI dX12_nights_2 fl12_70 (kR15 hS0.1 ta0) (Or.inl rfl) hS0 ta0 (iokF rfl) rfl (by decide +kernel) ?_
    intro I26 hS27 e28 f29
    refine tr_aload_n dX12_nights_5 rfl ?_
    refine tr_getR dX12_nights_6 fl12_385 (kR15 hS27.1 ta0) d6 ?_
    refine tr_ifnonnull 18 dX12_nights_9 (by decide) ?_
    refine tr_iload_n dX12_nights_18 rfl ?_
    refine q_iconst dX12_nights_19 (by decide) ?_
    intro v30 h31
    refine q_ldcw 65536 dX12_nights_20 ld12_503 (by decide +kernel) ?_
    intro v32 h33
    refine q_callSi hE (M' := mX12_in) (as := [_, _, _]) dX12_nights_23 lk12_149 inX12_in myX12_in ⟨by decide, by decide⟩ rfl (Nat.le_of_ble_eq_true rfl) rfl rfl (by decide) (by decide) (fk_X12_in hS27.1  ) ?_
    rintro v39 cn' K' N' I34 R35 L36 ⟨rfl, rfl, rfl, rfl, rfl, rfl, h40, dj41, -⟩
    rcases dj41 with ⟨p42, p43, p44, -⟩ | ⟨p45, p46, -⟩
    · skip
      refine q_if_eq 49 dX12_nights_26 (by decide) (fun h47 => ?_) (fun h47 => ?_)
      · skip
        exfalso; exact om_3624102b p42 h47
      · skip
        refine tr_iload_n dX12_nights_29 rfl ?_
        refine q_iconst dX12_nights_30 (by decide) ?_
        intro v48 h49
        refine q_bipush dX12_nights_31 (by decide +kernel) ?_
        intro v50 h51
        refine q_callSi hE (M' := mX12_in) (as := [_, _, _]) dX12_nights_33 lk12_149 inX12_in myX12_in ⟨by decide, by decide⟩ rfl (Nat.le_of_ble_eq_true rfl) rfl rfl (by decide) (by decide) (fk_X12_in hS27.1  ) ?_
        rintro v57 cn' K' N' I52 R53 L54 ⟨rfl, rfl, rfl, rfl, rfl, rfl, h58, dj59, -⟩
        rcases dj59 with ⟨p60, p61, p62, -⟩ | ⟨p63, p64, -⟩
        · skip
          refine q_if_eq 49 dX12_nights_36 (by decide) (fun h65 => ?_) (fun h65 => ?_)
          · skip
            exfalso; exact om_3624102b p60 h65
          · skip
            refine tr_iload_n dX12_nights_39 rfl ?_
            refine q_iconst dX12_nights_40 (by decide) ?_
            intro v66 h67
            refine q_bipush dX12_nights_41 (by decide +kernel) ?_
            intro v68 h69
            refine q_callSi hE (M' := mX12_in) (as := [_, _, _]) dX12_nights_43 lk12_149 inX12_in myX12_in ⟨by decide, by decide⟩ rfl (Nat.le_of_ble_eq_true rfl) rfl rfl (by decide) (by decide) (fk_X12_in hS27.1  ) ?_
            rintro v75 cn' K' N' I70 R71 L72 ⟨rfl, rfl, rfl, rfl, rfl, rfl, h76, dj77, -⟩
            rcases dj77 with ⟨p78, p79, p80, -⟩ | ⟨p81, p82, -⟩
            · skip
              refine q_if_ne 55 dX12_nights_46 (by decide) (fun h83 => ?_) (fun h83 => ?_)
              · skip
                refine q_iconst dX12_nights_55 (by decide) ?_
                intro v84 h85
                refine tr_istore dX12_nights_56 (by decide) (by decide) ?_
                have lp97 : ∀ (fu : Nat) (ls : Nat → Option Value) (v86 : Int32) (I92 : cz_I), ls 0 = some (.ref a0) → ls 1 = some (.int x1) → ls 2 = some (.int x2) → ls 3 = some (.int x3) → ls 4 = some (.int v86) → St T cn K N d wik_X12_nights wrk_X12_nights I0 R0 I92 R0 → 0 ≤ v86.toInt → v86.toInt ≤ 15 → ((∀ c : Nat, c < 15 → I92 a1 c = I0 a1 c) ∧ ∀ c : Nat, (c : Int) < v86.toInt → I92 a3 c = I0 a1 c) → (-v86.toInt + 2147483647).toNat < fu → Tr X mX12_nights 58 ls [] cn K N I92 R0 L0 0 0 := by
                  intro fu
                  induction fu with
                  | zero => intros; rename_i hz; exact absurd hz (Nat.not_lt_zero _)
                  | succ fu ih97 =>
                    intro ls v86 I92 hl87 hl88 hl89 hl90 hl91 hS93 g94 g95 rw96 hm97
                    refine tr_iload dX12_nights_58 hl91 ?_
                    refine q_bipush dX12_nights_60 (by decide +kernel) ?_
                    intro v99 h100
                    refine q_icmp_ge 85 dX12_nights_62 (by decide) (fun h101 => ?_) (fun h101 => ?_)
                    · skip
                      refine tr_aload_n dX12_nights_85 hl87 ?_
                      refine tr_getR dX12_nights_86 fl12_17 (kR15 hS93.1 ta0) d2 ?_
                      refine q_iconst dX12_nights_89 (by decide) ?_
                      intro v102 h103
                      refine tr_iload_n dX12_nights_90 hl88 ?_
                      refine q_iast dX12_nights_91 (kR77 hS93.1 ta1) (ti_in (nR77 hS93.1 ta1) (by exact om_bf35f35a h103) (by exact om_b96ee957 h103)) hS93 ta1 (iok_w2 rfl (by have q := ti_nat (i := v102) (by exact om_bf35f35a h103); exact om_e6ef3c86 h103 q) (by exact om_34b30c74 h31 h33 p43 p44)) rfl (by rfl) ?_
                      intro I104 hS105 e107 f106
                      rw [show v102.toNatClampNeg = 2 from ti_cl (by exact om_b0719f56 h103)] at e107
                      refine q_iconst dX12_nights_92 (by decide) ?_
                      intro v108 h109
                      refine tr_istore dX12_nights_93 (by decide) (by decide) ?_
                      refine q_iconst dX12_nights_95 (by decide) ?_
                      intro v110 h111
                      refine tr_istore dX12_nights_96 (by decide) (by decide) ?_
                      have lp124 : ∀ (fu : Nat) (ls : Nat → Option Value) (v112 : Int32) (v113 : Int32) (I120 : cz_I), ls 0 = some (.ref a0) → ls 1 = some (.int x1) → ls 2 = some (.int x2) → ls 3 = some (.int x3) → ls 4 = some (.int v112) → ls 5 = some (.int v113) → St T cn K N d wik_X12_nights wrk_X12_nights I0 R0 I120 R0 → 0 ≤ v113.toInt → (∀ c : Nat, c < 15 → I120 a3 c = I0 a1 c) → (-v113.toInt + 2147483647).toNat < fu → Tr X mX12_nights 98 ls [] cn K N I120 R0 L0 0 0 := by
                        intro fu
                        induction fu with
                        | zero => intros; rename_i hz; exact absurd hz (Nat.not_lt_zero _)
                        | succ fu ih124 =>
                          intro ls v112 v113 I120 hl114 hl115 hl116 hl117 hl118 hl119 hS121 g122 rw123 hm124
                          refine tr_iload dX12_nights_98 hl119 ?_
                          refine tr_iload_n dX12_nights_100 hl116 ?_
                          refine q_icmp_ge 146 dX12_nights_101 (by decide) (fun h126 => ?_) (fun h126 => ?_)
                          · skip
                            refine q_iconst dX12_nights_146 (by decide) ?_
                            intro v127 h128
                            refine tr_istore dX12_nights_147 (by decide) (by decide) ?_
                            have lp141 : ∀ (fu : Nat) (ls : Nat → Option Value) (v129 : Int32) (I136 : cz_I), ls 0 = some (.ref a0) → ls 1 = some (.int x1) → ls 2 = some (.int x2) → ls 3 = some (.int x3) → ls 4 = some (.int v112) → ls 5 = some (.int v129) → St T cn K N d wik_X12_nights wrk_X12_nights I0 R0 I136 R0 → 0 ≤ v129.toInt → v129.toInt ≤ 15 → ((∀ c : Nat, c < 15 → I136 a3 c = I0 a1 c) ∧ ∀ c : Nat, (c : Int) < v129.toInt → I136 a1 c = I0 a1 c) → (-v129.toInt + 2147483647).toNat < fu → Tr X mX12_nights 149 ls [] cn K N I136 R0 L0 0 0 := by
                              intro fu
                              induction fu with
                              | zero => intros; rename_i hz; exact absurd hz (Nat.not_lt_zero _)
                              | succ fu ih141 =>
                                intro ls v129 I136 hl130 hl131 hl132 hl133 hl134 hl135 hS137 g138 g139 rw140 hm141
                                refine tr_iload dX12_nights_149 hl135 ?_
                                refine q_bipush dX12_nights_151 (by decide +kernel) ?_
                                intro v143 h144
                                refine q_icmp_ge 176 dX12_nights_153 (by decide) (fun h145 => ?_) (fun h145 => ?_)
                                · skip
                                  refine tr_aload_n dX12_nights_176 hl130 ?_
                                  refine tr_iload dX12_nights_177 hl134 ?_
                                  refine q_callVi hE (M' := mX12_good) (as := [_]) dX12_nights_179 lk12_81 inX12_good seX12_good myX12_good (by decide) ⟨by decide, by decide⟩ rfl (kR15 hS137.1 ta0) (Nat.le_of_ble_eq_true rfl) rfl rfl (by decide) (by decide) (fk_X12_good hS137.1  ta0) ?_
                                  rintro v151 cn' K' N' I146 R147 L148 ⟨rfl, rfl, rfl, rfl, rfl, g149, p152, p153, p154, -⟩
                                  have hS155 := hS137.tr g149 (by decide +kernel) (by decide +kernel)
                                  obtain ⟨v156, c157⟩ : ∃ v, I146 a0 1 = v := ⟨_, rfl⟩
                                  rw [c157] at p153
                                  obtain ⟨v158, c159⟩ : ∃ v, I146 a0 2 = v := ⟨_, rfl⟩
                                  rw [c159] at p154
                                  exact tr_iret hZ dX12_nights_182 rfl (by decide) (by decide) ⟨v151, rfl, rfl, rfl, rfl, rfl, rfl, hS155, (fun w hw c hc => by obtain rfl := Option.some.inj (d2.symm.trans hw); exact ((g149.cell ta1 (wm_no (by decide +kernel)))).trans (rw140.2 c (by exact om_f7185e3a h144 h145 hc))), trivial⟩
                                · skip
                                  refine tr_aload_n dX12_nights_156 hl130 ?_
                                  refine tr_getR dX12_nights_157 fl12_17 (kR15 hS137.1 ta0) d2 ?_
                                  refine tr_iload dX12_nights_160 hl135 ?_
                                  refine tr_aload_n dX12_nights_162 hl130 ?_
                                  refine tr_getR dX12_nights_163 fl12_67 (kR15 hS137.1 ta0) d4 ?_
                                  refine tr_iload dX12_nights_166 hl135 ?_
                                  refine q_iald dX12_nights_168 (kR80 hS137.1 ta3) (ti_in (nR80 hS137.1 ta3) (by exact om_2cfcd5a5 g138) (by exact om_e5c31555 g138 g139 h144 h145)) ?_
                                  intro v160 c161
                                  refine q_iast dX12_nights_169 (kR77 hS137.1 ta1) (ti_in (nR77 hS137.1 ta1) (by exact om_2cfcd5a5 g138) (by exact om_e5c31555 g138 g139 h144 h145)) hS137 ta1 (iok_w (r := 80) rfl rfl (by have q := ti_nat (i := v129) (by exact om_2cfcd5a5 g138); have q2 := ti_nat (i := v129) (by exact om_2cfcd5a5 g138); exact om_bb7beb15) (hS137.1.iv ta3 c161)) rfl (by rfl) ?_
                                  intro I163 hS164 e166 f165
                                  refine q_iincE dX12_nights_170 hl135 (by decide) (by decide) (by intro j1 j2; exact om_28307bfb g138 g139) ?_
                                  intro v167 h168
                                  refine tr_goto 149 dX12_nights_173 (by decide) ?_
                                  exact ih141 _ v167 I163 hl130 hl131 hl132 hl133 hl134 rfl hS164 (by exact om_5d7f4aa4 g138 g139 h144 h145 h168) (by exact om_4ab7b23a g138 g139 h144 h145 h168) ⟨fun c hc => ((f165 _ _ (fun q => by have z := ta3; rw [q.1, ta1] at z; exact absurd z (by decide)))).trans (rw140.1 c hc), fun c hc => by by_cases q : c = v129.toNatClampNeg; subst q; exact e166.trans (c161.symm.trans (rw140.1 _ (by have q := ti_nat (i := v129) (by exact om_2cfcd5a5 g138); exact om_5afb1d8c g138 g139 h144 h145 h168 q))); rw [f165 _ _ (fun z => q z.2)]; exact rw140.2 c (by have z := ti_nat (i := v129) (by exact om_2cfcd5a5 g138); exact om_33d4b3e5 h168 hc q z)⟩ (by exact om_afd4cec7 g138 g139 hm141 h144 h145 h168)
                            exact lp141 _ _ v127 I120 hl114 hl115 hl116 hl117 hl118 rfl hS121 (by exact om_d99fa9e4 h128) (by exact om_a15f8564 h128) ⟨fun c hc => (rfl).trans (rw123 c hc), fun c hc => by omega⟩ (Nat.lt_succ_self _)
                          · skip
                            refine tr_aload_n dX12_nights_104 hl114 ?_
                            refine tr_getR dX12_nights_105 fl12_17 (kR15 hS121.1 ta0) d2 ?_
                            refine q_iconst dX12_nights_108 (by decide) ?_
                            intro v169 h170
                            refine q_iconst dX12_nights_109 (by decide) ?_
                            intro v171 h172
                            refine q_iast dX12_nights_110 (kR77 hS121.1 ta1) (ti_in (nR77 hS121.1 ta1) (by exact om_f9079521 h170) (by exact om_73248752 h170)) hS121 ta1 (iok_w0 rfl (by exact om_29f55913 h172)) rfl (by rfl) ?_
                            intro I173 hS174 e176 f175
                            rw [show v169.toNatClampNeg = 1 from ti_cl (by exact om_21c44602 h170)] at e176
                            refine q_iconst dX12_nights_111 (by decide) ?_
                            intro v177 h178
                            refine tr_istore dX12_nights_112 (by decide) (by decide) ?_
                            have lp194 : ∀ (fu : Nat) (ls : Nat → Option Value) (v179 : Int32) (I187 : cz_I) (v189 : Int32), ls 0 = some (.ref a0) → ls 1 = some (.int x1) → ls 2 = some (.int x2) → ls 3 = some (.int x3) → ls 4 = some (.int v112) → ls 5 = some (.int v113) → ls 6 = some (.int v179) → St T cn K N d wik_X12_nights wrk_X12_nights I0 R0 I187 R0 → I187 a1 1 = v189 → v189.toInt = v179.toInt → 0 ≤ v179.toInt → (∀ c : Nat, c < 15 → I187 a3 c = I0 a1 c) → (-v179.toInt + 2147483647).toNat < fu → Tr X mX12_nights 114 ls [] cn K N I187 R0 L0 0 0 := by
                              intro fu
                              induction fu with
                              | zero => intros; rename_i hz; exact absurd hz (Nat.not_lt_zero _)
                              | succ fu ih194 =>
                                intro ls v179 I187 v189 hl180 hl181 hl182 hl183 hl184 hl185 hl186 hS188 c190 g191 g192 rw193 hm194
                                have b196 := iv77_1 hS188.1 ta1 (by decide) c190
                                refine tr_iload dX12_nights_114 hl186 ?_
                                refine tr_iload_n dX12_nights_116 hl183 ?_
                                refine q_icmp_ge 131 dX12_nights_117 (by decide) (fun h197 => ?_) (fun h197 => ?_)
                                · skip
                                  refine tr_iload dX12_nights_131 hl184 ?_
                                  refine tr_aload_n dX12_nights_133 hl180 ?_
                                  refine q_callVi hE (M' := mX12_tonight) (as := []) dX12_nights_134 lk12_455 inX12_tonight seX12_tonight myX12_tonight (by decide) ⟨by decide, by decide⟩ rfl (kR15 hS188.1 ta0) (Nat.le_of_ble_eq_true rfl) rfl rfl (by decide) (by decide) (k_X12_tonight hS188.1 ta0 ⟨_, d6⟩) ?_
                                  rintro v202 cn' K' N' I198 R199 L200 ⟨rfl, rfl, rfl, rfl, rfl, g201, -⟩
                                  have hS203 := hS188.tr g201 (by decide +kernel) (by decide +kernel)
                                  have c204 : I198 a1 1 = v189 := (g201.cell ta1 (by decide +kernel)).trans c190
                                  refine q_iadd dX12_nights_137 ?_
                                  intro v205
                                  refine tr_istore dX12_nights_138 (by decide) (by decide) ?_
                                  refine q_iincE dX12_nights_140 hl185 (by decide) (by decide) (by intro j1 j2; exact om_925b5dd0 h49 h51 p61 p62 g122 h126 j2) ?_
                                  intro v206 h207
                                  refine tr_goto 98 dX12_nights_143 (by decide) ?_
                                  exact ih124 _ v205 v206 I198 hl180 hl181 hl182 hl183 rfl rfl hS203 (by exact om_68881c41 g122 h207) (fun c hc => ((g201.cell ta3 (wm_no (by decide +kernel)))).trans (rw193 c hc)) (by exact om_7d2c3321 h49 h51 p61 p62 g122 hm124 h126 g191 g192 b196.2 h207)
                                · skip
                                  refine tr_aload_n dX12_nights_120 hl180 ?_
                                  obtain ⟨v208, c209⟩ : ∃ v, I187 a1 2 = v := ⟨_, rfl⟩
                                  have b210 := iv77_2 hS188.1 ta1 (by decide) c209
                                  obtain ⟨v211, c212⟩ : ∃ v, I0 a5 0 = v := ⟨_, rfl⟩
                                  have b213 := hW0.2.2.2.2.2.1 a0 ta0 _ d6
                                  rw [c212] at b213
                                  have b214 := iv14_0 hW0 ta5 c212
                                  obtain ⟨v215, c216⟩ : ∃ v, I187 a1 0 = v := ⟨_, rfl⟩
                                  refine q_callVi hE (M' := mX12_draws) (as := []) dX12_nights_121 lk12_504 inX12_draws seX12_draws myX12_draws (by decide) ⟨by decide, by decide⟩ rfl (kR15 hS188.1 ta0) (Nat.le_of_ble_eq_true rfl) rfl rfl (by decide) (by decide) (fk_X12_draws hS188.1  ta0 (fun q0 z0 => by obtain rfl := Option.some.inj ((d2).symm.trans z0); (try rw [c190]); first | done | with_reducible assumption | exact om_69b71a43 h67 h69 p79 p80 g191 g192 b196.2 h197) ⟨_, d6⟩) ?_
                                  rintro v222 cn' K' N' I217 R218 L219 ⟨rfl, rfl, rfl, rfl, rfl, g220, h223, p224, p225, p226, p227, -⟩
                                  have hS228 := hS188.tr g220 (by decide +kernel) (by decide +kernel)
                                  obtain ⟨v229, c230⟩ : ∃ v, I217 a1 2 = v := ⟨_, rfl⟩
                                  have b231 := iv77_2 hS228.1 ta1 (by decide) c230
                                  have p232 := p224 _ d2
                                  clear p224
                                  rw [c230] at p232
                                  rw [c209] at p232
                                  have p233 := p225 _ d2 _ d6
                                  clear p225
                                  rw [c209] at p233
                                  rw [((hS188.cell ta5 (by decide +kernel)).trans c212)] at p233
                                  obtain ⟨v234, c235⟩ : ∃ v, I217 a1 0 = v := ⟨_, rfl⟩
                                  have p236 := p226 _ d2
                                  clear p226
                                  rw [c235] at p236
                                  rw [c216] at p236
                                  obtain ⟨v237, c238⟩ : ∃ v, I217 a1 1 = v := ⟨_, rfl⟩
                                  have b239 := iv77_1 hS228.1 ta1 (by decide) c238
                                  have p240 := p227 _ d2
                                  clear p227
                                  rw [c238] at p240
                                  rw [c190] at p240
                                  refine tr_pop dX12_nights_124 rfl ?_
                                  refine q_iincE dX12_nights_125 hl186 (by decide) (by decide) (by intro j1 j2; exact om_d8457a0d g191 g192 b196.2 b239.2 b239.1 p240) ?_
                                  intro v241 h242
                                  refine tr_goto 114 dX12_nights_128 (by decide) ?_
                                  exact ih194 _ v241 I217 v237 hl180 hl181 hl182 hl183 hl184 hl185 rfl hS228 c238 (by exact om_5c2b23ce g191 p240 h242) (by exact om_50740f81 g191 g192 b196.2 b239.2 b239.1 p240 h242) (fun c hc => ((g220.cell ta3 (wm_no (by decide +kernel)))).trans (rw193 c hc)) (by exact om_b88644da g191 g192 hm194 b196.2 b239.2 b239.1 p240 h242)
                            exact lp194 _ _ v177 I173 v171 hl114 hl115 hl116 hl117 hl118 hl119 rfl hS174 e176 (by exact om_5bac22bd h172 h178) (by exact om_d99fa9e4 h178) (fun c hc => ((f175 _ _ (fun q => by have z := ta3; rw [q.1, ta1] at z; exact absurd z (by decide)))).trans (rw123 c hc)) (Nat.lt_succ_self _)
                      exact lp124 _ _ v108 v110 I104 hl87 hl88 hl89 hl90 rfl rfl hS105 (by exact om_d99fa9e4 h111) (fun c hc => ((f106 _ _ (fun q => by have z := ta3; rw [q.1, ta1] at z; exact absurd z (by decide)))).trans (rw96.2 c (by exact om_f7185e3a h100 h101 hc))) (Nat.lt_succ_self _)
                    · skip
                      refine tr_aload_n dX12_nights_65 hl87 ?_
                      refine tr_getR dX12_nights_66 fl12_67 (kR15 hS93.1 ta0) d4 ?_
                      refine tr_iload dX12_nights_69 hl91 ?_
                      refine tr_aload_n dX12_nights_71 hl87 ?_
                      refine tr_getR dX12_nights_72 fl12_17 (kR15 hS93.1 ta0) d2 ?_
                      refine tr_iload dX12_nights_75 hl91 ?_
                      refine q_iald dX12_nights_77 (kR77 hS93.1 ta1) (ti_in (nR77 hS93.1 ta1) (by exact om_2cfcd5a5 g94) (by exact om_e5c31555 g94 g95 h100 h101)) ?_
                      intro v243 c244
                      refine q_iast dX12_nights_78 (kR80 hS93.1 ta3) (ti_in (nR80 hS93.1 ta3) (by exact om_2cfcd5a5 g94) (by exact om_e5c31555 g94 g95 h100 h101)) hS93 ta3 (iok_w (r := 77) rfl rfl (by have q := ti_nat (i := v86) (by exact om_2cfcd5a5 g94); have q2 := ti_nat (i := v86) (by exact om_2cfcd5a5 g94); exact om_bb7beb15) (hS93.1.iv ta1 c244)) rfl (by rfl) ?_
                      intro I246 hS247 e249 f248
                      refine q_iincE dX12_nights_79 hl91 (by decide) (by decide) (by intro j1 j2; exact om_28307bfb g94 g95) ?_
                      intro v250 h251
                      refine tr_goto 58 dX12_nights_82 (by decide) ?_
                      exact ih97 _ v250 I246 hl87 hl88 hl89 hl90 rfl hS247 (by exact om_5d7f4aa4 g94 g95 h100 h101 h251) (by exact om_4ab7b23a g94 g95 h100 h101 h251) ⟨fun c hc => ((f248 _ _ (fun q => by have z := ta1; rw [q.1, ta3] at z; exact absurd z (by decide)))).trans (rw96.1 c hc), fun c hc => by by_cases q : c = v86.toNatClampNeg; subst q; exact e249.trans (c244.symm.trans (rw96.1 _ (by have q := ti_nat (i := v86) (by exact om_2cfcd5a5 g94); exact om_5afb1d8c g94 g95 h100 h101 h251 q))); rw [f248 _ _ (fun z => q z.2)]; exact rw96.2 c (by have z := ti_nat (i := v86) (by exact om_2cfcd5a5 g94); exact om_33d4b3e5 h251 hc q z)⟩ (by exact om_afd4cec7 g94 g95 hm97 h100 h101 h251)
                exact lp97 _ _ v84 I26 rfl rfl rfl rfl rfl hS27 (by exact om_d99fa9e4 h85) (by exact om_a15f8564 h85) ⟨fun c hc => ((f29 _ _ (fun q => by have z := ta1; rw [q.1, ta0] at z; exact absurd z (by decide)))), fun c hc => by omega⟩ (Nat.lt_succ_self _)
              · skip
                exfalso; exact om_3624102b p78 h83
            · skip
              refine q_if_ne 55 dX12_nights_46 (by decide) (fun h252 => ?_) (fun h252 => ?_)
              · skip
                exfalso; exact om_3a97d4a5 p81 h252
              · skip
                refine tr_aload_n dX12_nights_49 rfl ?_
                refine q_iconst dX12_nights_50 (by decide) ?_
                intro v253 h254
                refine q_callVi hE (M' := mX12_lost) (as := [_]) dX12_nights_51 lk12_458 inX12_lost seX12_lost myX12_lost (by decide) ⟨by decide, by decide⟩ rfl (kR15 hS27.1 ta0) (Nat.le_of_ble_eq_true rfl) rfl rfl (by decide) (by decide) (fk_X12_lost hS27.1  ta0) ?_
                rintro v260 cn' K' N' I255 R256 L257 ⟨rfl, rfl, rfl, rfl, rfl, g258, p261, -⟩
                have hS262 := hS27.tr g258 (by decide +kernel) (by decide +kernel)
                have c263 : I255 a0 0 = v24 := (g258.cell ta0 (by decide +kernel)).trans e28
                exact tr_iret hZ dX12_nights_54 rfl (by decide) (by decide) ⟨v260, rfl, rfl, rfl, rfl, rfl, rfl, hS262, (fun w hw c hc => by obtain rfl := Option.some.inj (d2.symm.trans hw); exact (((g258.cell ta1 (wm_no (by decide +kernel))).trans (f29 _ _ (fun q => by have z := ta1; rw [q.1, ta0] at z; exact absurd z (by decide)))))), trivial⟩
        · skip
          refine q_if_eq 49 dX12_nights_36 (by decide) (fun h264 => ?_) (fun h264 => ?_)
          · skip
            refine tr_aload_n dX12_nights_49 rfl ?_
            refine q_iconst dX12_nights_50 (by decide) ?_
            intro v265 h266
            refine q_callVi hE (M' := mX12_lost) (as := [_]) dX12_nights_51 lk12_458 inX12_lost seX12_lost myX12_lost (by decide) ⟨by decide, by decide⟩ rfl (kR15 hS27.1 ta0) (Nat.le_of_ble_eq_true rfl) rfl rfl (by decide) (by decide) (fk_X12_lost hS27.1  ta0) ?_
            rintro v272 cn' K' N' I267 R268 L269 ⟨rfl, rfl, rfl, rfl, rfl, g270, p273, -⟩
            have hS274 := hS27.tr g270 (by decide +kernel) (by decide +kernel)
            have c275 : I267 a0 0 = v24 := (g270.cell ta0 (by decide +kernel)).trans e28
            exact tr_iret hZ dX12_nights_54 rfl (by decide) (by decide) ⟨v272, rfl, rfl, rfl, rfl, rfl, rfl, hS274, (fun w hw c hc => by obtain rfl := Option.some.inj (d2.symm.trans hw); exact (((g270.cell ta1 (wm_no (by decide +kernel))).trans (f29 _ _ (fun q => by have z := ta1; rw [q.1, ta0] at z; exact absurd z (by decide)))))), trivial⟩
          · skip
            exfalso; exact om_3a97d4a5 p63 h264
    · skip
      refine q_if_eq 49 dX12_nights_26 (by decide) (fun h276 => ?_) (fun h276 => ?_)
      · skip
        refine tr_aload_n dX12_nights_49 rfl ?_
        refine q_iconst dX12_nights_50 (by decide) ?_
        intro v277 h278
        refine q_callVi hE (M' := mX12_lost) (as := [_]) dX12_nights_51 lk12_458 inX12_lost seX12_lost myX12_lost (by decide) ⟨by decide, by decide⟩ rfl (kR15 hS27.1 ta0) (Nat.le_of_ble_eq_true rfl) rfl rfl (by decide) (by decide) (fk_X12_lost hS27.1  ta0) ?_
        rintro v284 cn' K' N' I279 R280 L281 ⟨rfl, rfl, rfl, rfl, rfl, g282, p285, -⟩
        have hS286 := hS27.tr g282 (by decide +kernel) (by decide +kernel)
        have c287 : I279 a0 0 = v24 := (g282.cell ta0 (by decide +kernel)).trans e28
        exact tr_iret hZ dX12_nights_54 rfl (by decide) (by decide) ⟨v284, rfl, rfl, rfl, rfl, rfl, rfl, hS286, (fun w hw c hc => by obtain rfl := Option.some.inj (d2.symm.trans hw); exact (((g282.cell ta1 (wm_no (by decide +kernel))).trans (f29 _ _ (fun q => by have z := ta1; rw [q.1, ta0] at z; exact absurd z (by decide)))))), trivial⟩
      · skip
        exfalso; exact om_3a97d4a5 p45 h276
