def wik_X8_build : List Nat := [768, 769, 778, 2303, 2367, 2431, 2495, 2559, 2623, 2687, 2751, 2815]
def wrk_X8_build : List Nat := []
set_option maxHeartbeats 4000000 in
theorem fk_X8_build {l : Launch} {T : Nat → Nat} {cn : Nat} {K N : Nat → Nat} {I0 : cz_I} {R0 : cz_R} {L0 : cz_L} {d : Int} (hW0 : Wf T cn K N I0 R0 d) (gX : Nat → Nat → Int) {a0 : Nat} (ta0 : T a0 = 12) {a1 : Nat} (ta1 : T a1 = 2) {a2 : Nat} (ta2 : T a2 = 8) {x3 : Int32} (hX : EvX I0 R0 a1 a2 gX) : ConE l mX8_build [.ref a0, .ref a1, .ref a2, .int x3] cn K N I0 R0 L0 (ca_v (fun cn' K' N' I' R' L' => cn = cn' ∧ K = K' ∧ N = N' ∧ R0 = R' ∧ L0 = L' ∧ St T cn K N d wik_X8_build wrk_X8_build I0 R0 I' R0 ∧ (SkF I' R0 a0 (I0 a1 0).toInt (I0 a1 1).toInt x3.toInt gX ((I0 a1 3).toInt.toNat + (I0 a2 2).toInt.toNat) (I0 a1 0).toInt) ∧ (FrS R0 a0 T I0 I') ∧ (Bts (I' a0 1) (fun j => if (j : Int) < (I0 a1 1).toInt then 1 else 0)) ∧ (∀ oA rA, R0 a1 8 = some oA → R0 oA 1 = some rA → StR I' R0 a0 (I0 a1 0).toInt (stI gX x3.toInt ((I0 a1 3).toInt.toNat + (I0 a2 2).toInt.toNat) (I0 a1 1).toInt (fun x => exI (fun j => if (I0 rA j).toInt = x then 1 else 0) (I0 oA 0).toInt.toNat))) ∧ True)) := by
  refine ConE.of (by decide +kernel) rfl (Nat.le_of_ble_eq_true rfl) rfl (fun X hX hZ hE => ?_)
  subst hX
  have hS0 : St T cn K N d wik_X8_build wrk_X8_build I0 R0 I0 R0 := St.rf0 hW0
  obtain ⟨a11, d12, ta11⟩ := rf12_2 hW0 ta0
  obtain ⟨a13, d14, ta13⟩ := rf12_3 hW0 ta0
  obtain ⟨a15, d16, ta15⟩ := rf12_4 hW0 ta0
  obtain ⟨a17, d18, ta17⟩ := rf12_5 hW0 ta0
  obtain ⟨a19, d20, ta19⟩ := rf12_6 hW0 ta0
  obtain ⟨a21, d22, ta21⟩ := rf12_7 hW0 ta0
  obtain ⟨a23, d24, ta23⟩ := rf12_8 hW0 ta0
  obtain ⟨a25, d26, ta25⟩ := rf12_9 hW0 ta0
  obtain ⟨a27, d28, ta27⟩ := rf12_11 hW0 ta0
  obtain ⟨v29, c30⟩ : ∃ v, I0 a1 0 = v := ⟨_, rfl⟩
  have b31 := iv2_0 hW0 ta1 c30
  obtain ⟨v32, c33⟩ : ∃ v, I0 a1 1 = v := ⟨_, rfl⟩
  have b34 := iv2_1 hW0 ta1 c33
  obtain ⟨v35, c36⟩ : ∃ v, I0 a1 3 = v := ⟨_, rfl⟩
  have b37 := iv2_3 hW0 ta1 c36
  obtain ⟨v38, c39⟩ : ∃ v, I0 a2 2 = v := ⟨_, rfl⟩
  have b40 := iv8_2 hW0 ta2 c39
  obtain ⟨a41, d42, ta41⟩ := rf2_4 hW0 ta1
  obtain ⟨a43, d44, ta43⟩ := rf8_3 hW0 ta2
  obtain ⟨a45, d46, ta45⟩ := rf8_4 hW0 ta2
  obtain ⟨a47, d48, ta47⟩ := rf2_8 hW0 ta1
  obtain ⟨a49, d50, ta49⟩ := rf6_1 hW0 ta47
  obtain ⟨v51, c52⟩ : ∃ v, I0 a47 0 = v := ⟨_, rfl⟩
  have b53 := iv6_0 hW0 ta47 c52
  refine tr_aload_n dX8_build_0 rfl ?_
  refine tr_aload_n dX8_build_1 rfl ?_
  refine q_getI dX8_build_2 fl8_40 (kR2 hS0.1 ta1) c30 ?_
  refine q_putI dX8_build_5 fl8_46 (kR12 hS0.1 ta0) (Or.inl rfl) hS0 ta0 (by show (0 : Int) ≤ v29.toInt ∧ v29.toInt ≤ (240 : Int); omega) rfl (by decide +kernel) ?_
  intro I54 hS55 e56 f57
  refine tr_aload_n dX8_build_8 rfl ?_
  refine q_iconst dX8_build_9 (by decide) ?_
  intro v58 h59
  refine tr_aload_n dX8_build_10 rfl ?_
  refine q_getI dX8_build_11 fl8_47 (kR2 hS55.1 ta1) ((hS55.cell ta1 (by decide +kernel)).trans c33) ?_
  refine tr_ishl dX8_build_14 ?_
  obtain ⟨v60, lx61⟩ : ∃ z, z = v58 <<< (v32 &&& 31) := ⟨_, rfl⟩
  rw [← lx61]
  refine q_iconst dX8_build_15 (by decide) ?_
  intro v62 h63
  refine tr_isub dX8_build_16 ?_
  obtain ⟨v64, lx65⟩ : ∃ z, z = v60 - v62 := ⟨_, rfl⟩
  rw [← lx65]
  refine q_putI dX8_build_17 fl8_50 (kR12 hS55.1 ta0) (Or.inl rfl) hS55 ta0 (iokF rfl) rfl (by decide +kernel) ?_
  intro I66 hS67 e68 f69
  have c70 : I66 a0 0 = v29 := (f69 _ _ (fun q => absurd q.2 (by decide))).trans e56
  refine tr_aload_n dX8_build_20 rfl ?_
  refine q_callVv hE (M' := mX8_wipe) (as := []) dX8_build_21 lk8_53 inX8_wipe seX8_wipe myX8_wipe (by decide) ⟨by decide, by decide⟩ rfl (kR12 hS67.1 ta0) (Nat.le_of_ble_eq_true rfl) rfl rfl (by decide) (by decide) (fk_X8_wipe hS67.1  ta0) ?_
  rintro cn' K' N' I71 R72 L73 ⟨rfl, rfl, rfl, rfl, rfl, g74, rp77, rp78, -⟩
  have hS79 := hS67.tr g74 (by decide +kernel) (by decide +kernel)
  have c80 : I71 a0 0 = v29 := (g74.cell ta0 (by decide +kernel)).trans c70
  have c81 : I71 a0 1 = v64 := (g74.cell ta0 (by decide +kernel)).trans e68
  refine q_iconst dX8_build_24 (by decide) ?_
  intro v82 h83
  refine tr_istore dX8_build_25 (by decide) (by decide) ?_
  have lp100 : ∀ (fu : Nat) (ls : Nat → Option Value) (v84 : Int32) (I90 : cz_I) (v92 : Int32), ls 0 = some (.ref a0) → ls 1 = some (.ref a1) → ls 2 = some (.ref a2) → ls 3 = some (.int x3) → ls 4 = some (.int v84) → St T cn K N d wik_X8_build wrk_X8_build I0 R0 I90 R0 → I90 a0 0 = v92 → 0 ≤ v84.toInt → v84.toInt ≤ v35.toInt → (SkR I90 R0 a0 v29.toInt x3.toInt gX (v84.toInt.toNat)) → (Bts (I90 a0 1) (fun j => if (j : Int) < v32.toInt then 1 else 0)) → (FrS R0 a0 T I0 I90) → (v92.toInt = v29.toInt) → (-v84.toInt + 2147483647).toNat < fu → Tr X mX8_build 27 ls [] cn K N I90 R0 L0 0 0 := by
    intro fu
    induction fu with
    | zero => intros; rename_i hz; exact absurd hz (Nat.not_lt_zero _)
    | succ fu ih100 =>
      intro ls v84 I90 v92 hl85 hl86 hl87 hl88 hl89 hS91 c93 g94 g95 rw96 rw97 rw98 rw99 hm100
      have b102 := iv12_0 hS91.1 ta0 c93
      refine tr_iload dX8_build_27 hl89 ?_
      refine tr_aload_n dX8_build_29 hl86 ?_
      refine q_getI dX8_build_30 fl8_56 (kR2 hS91.1 ta1) ((hS91.cell ta1 (by decide +kernel)).trans c36) ?_
      refine q_icmp_ge 59 dX8_build_33 (by decide) (fun h103 => ?_) (fun h103 => ?_)
      · skip
        refine q_iconst dX8_build_59 (by decide) ?_
        intro v104 h105
        refine tr_istore dX8_build_60 (by decide) (by decide) ?_
        have lp122 : ∀ (fu : Nat) (ls : Nat → Option Value) (v106 : Int32) (I112 : cz_I) (v114 : Int32), ls 0 = some (.ref a0) → ls 1 = some (.ref a1) → ls 2 = some (.ref a2) → ls 3 = some (.int x3) → ls 4 = some (.int v106) → St T cn K N d wik_X8_build wrk_X8_build I0 R0 I112 R0 → I112 a0 0 = v114 → 0 ≤ v106.toInt → v106.toInt ≤ v38.toInt → (SkR I112 R0 a0 v29.toInt x3.toInt gX (v35.toInt.toNat + v106.toInt.toNat)) → (Bts (I112 a0 1) (fun j => if (j : Int) < v32.toInt then 1 else 0)) → (FrS R0 a0 T I0 I112) → (v114.toInt = v29.toInt) → (-v106.toInt + 2147483647).toNat < fu → Tr X mX8_build 62 ls [] cn K N I112 R0 L0 0 0 := by
          intro fu
          induction fu with
          | zero => intros; rename_i hz; exact absurd hz (Nat.not_lt_zero _)
          | succ fu ih122 =>
            intro ls v106 I112 v114 hl107 hl108 hl109 hl110 hl111 hS113 c115 g116 g117 rw118 rw119 rw120 rw121 hm122
            have b124 := iv12_0 hS113.1 ta0 c115
            refine tr_iload dX8_build_62 hl111 ?_
            refine tr_aload_n dX8_build_64 hl109 ?_
            refine q_getI dX8_build_65 fl8_67 (kR8 hS113.1 ta2) ((hS113.cell ta2 (by decide +kernel)).trans c39) ?_
            refine q_icmp_ge 106 dX8_build_68 (by decide) (fun h125 => ?_) (fun h125 => ?_)
            · skip
              refine tr_aload_n dX8_build_106 hl107 ?_
              refine q_callVv hE (M' := mX8_findLight) (as := []) dX8_build_107 lk8_82 inX8_findLight seX8_findLight myX8_findLight (by decide) ⟨by decide, by decide⟩ rfl (kR12 hS113.1 ta0) (Nat.le_of_ble_eq_true rfl) rfl rfl (by decide) (by decide) (fk_X8_findLight hS113.1 (gX) (v35.toInt.toNat + v38.toInt.toNat) (x3.toInt) (v32.toInt) ta0 (by have z := rw118; rw [show v106.toInt.toNat = v38.toInt.toNat by omega, show v29.toInt = v114.toInt by omega] at z; rw [c115]; exact z) rw119) ?_
              rintro cn' K' N' I126 R127 L128 ⟨rfl, rfl, rfl, rfl, rfl, g129, rp132, rp133, -⟩
              have hS134 := hS113.tr g129 (by decide +kernel) (by decide +kernel)
              have c135 : I126 a0 0 = v114 := (g129.cell ta0 (by decide +kernel)).trans c115
              refine tr_aload_n dX8_build_110 hl107 ?_
              refine tr_aload_n dX8_build_111 hl108 ?_
              refine tr_getR dX8_build_112 fl8_85 (kR2 hS134.1 ta1) d48 ?_
              refine q_callVv hE (M' := mX8_findStirs) (as := [_]) dX8_build_115 lk8_89 inX8_findStirs seX8_findStirs myX8_findStirs (by decide) ⟨by decide, by decide⟩ rfl (kR12 hS134.1 ta0) (Nat.le_of_ble_eq_true rfl) rfl rfl (by decide) (by decide) (fk_X8_findStirs hS134.1  ta0 ta47) ?_
              rintro cn' K' N' I136 R137 L138 ⟨rfl, rfl, rfl, rfl, rfl, g139, rp142, rp143, -⟩
              have hS144 := hS134.tr g139 (by decide +kernel) (by decide +kernel)
              have c145 : I136 a0 0 = v114 := (g139.cell ta0 (by decide +kernel)).trans c135
              exact tr_vret hZ dX8_build_118 rfl (by decide) (by decide) ⟨rfl, rfl, rfl, rfl, rfl, rfl, hS144, (by rw [c30, c33, c36, c39]; have z := SkF.kp rp132 (fun r m k h2 h9 hr => by have hk : k = 2 ∨ k = 3 ∨ k = 4 ∨ k = 5 ∨ k = 6 ∨ k = 7 ∨ k = 8 ∨ k = 9 := (by omega); rcases hk with rfl | rfl | rfl | rfl | rfl | rfl | rfl | rfl; exact g139.cell (hS113.1.rs ta0 rfl rfl hr : T r = 35) (wm_no (by decide +kernel)); exact g139.cell (hS113.1.rs ta0 rfl rfl hr : T r = 36) (wm_no (by decide +kernel)); exact g139.cell (hS113.1.rs ta0 rfl rfl hr : T r = 37) (wm_no (by decide +kernel)); exact g139.cell (hS113.1.rs ta0 rfl rfl hr : T r = 38) (wm_no (by decide +kernel)); exact g139.cell (hS113.1.rs ta0 rfl rfl hr : T r = 39) (wm_no (by decide +kernel)); exact g139.cell (hS113.1.rs ta0 rfl rfl hr : T r = 40) (wm_no (by decide +kernel)); exact g139.cell (hS113.1.rs ta0 rfl rfl hr : T r = 41) (wm_no (by decide +kernel)); exact g139.cell (hS113.1.rs ta0 rfl rfl hr : T r = 42) (wm_no (by decide +kernel))); rw [c115, show v114.toInt = v29.toInt by omega] at z; exact z), ((rw120.tr rp133).tr rp142), (by rw [c33]; rw [g139.cell ta0 (by decide +kernel)]; exact (by rw [g129.cell ta0 (by decide +kernel)]; exact rw119)), (fun oA rA ho hr => by obtain rfl := Option.some.inj (d48.symm.trans ho); obtain rfl := Option.some.inj (d50.symm.trans hr); have F := rp132; have z := rp143 _ _ _ _ d14 d24 d26 d50; rw [c115] at F; rw [show I126 a0 0 = v114 from (g129.cell ta0 (by decide +kernel)).trans c115] at z; have w := StR.cg z (g := stI gX x3.toInt ((I0 a1 3).toInt.toNat + (I0 a2 2).toInt.toNat) (I0 a1 1).toInt (fun x => exI (fun j => if (I0 a49 j).toInt = x then 1 else 0) (I0 a47 0).toInt.toNat)) (fun m hm => by rw [stI_of (r3 := a13) (r8 := a23) (r9 := a25) (A := exI (fun j => if (I0 a49 j).toInt = (m : Int) then 1 else 0) (I0 a47 0).toInt.toNat) (by rw [c33, c36, c39]; exact F) d14 d24 d26 hm rfl]; show _ = (if _ then _ else _); rw [hS134.cell ta47 (by decide +kernel), exI_cg (f := fun j => if (I126 a49 j).toInt = (m : Int) then 1 else 0) _ (fun j _ => by show (if (I0 a49 j).toInt = (m : Int) then (1 : Int) else 0) = if (I126 a49 j).toInt = (m : Int) then 1 else 0; rw [hS134.cell ta49 (wm_no (by decide +kernel))])]); rw [c30, show v29.toInt = v114.toInt by omega]; exact w), trivial⟩
            · skip
              refine tr_aload_n dX8_build_71 hl108 ?_
              refine q_getI dX8_build_72 fl8_56 (kR2 hS113.1 ta1) ((hS113.cell ta1 (by decide +kernel)).trans c36) ?_
              refine tr_iload dX8_build_75 hl111 ?_
              refine q_iaddE dX8_build_77 (by intros; omega) ?_
              intro v146 h147
              refine tr_iload_n dX8_build_78 hl110 ?_
              refine q_icmp_eq 100 dX8_build_79 (by decide) (fun h148 => ?_) (fun h148 => ?_)
              · skip
                refine q_iincE dX8_build_100 hl111 (by decide) (by decide) (by intros; omega) ?_
                intro v149 h150
                refine tr_goto 62 dX8_build_103 (by decide) ?_
                exact ih122 _ v149 I112 v114 hl107 hl108 hl109 hl110 rfl hS113 c115 (by omega) (by omega) (by rw [show v35.toInt.toNat + v149.toInt.toNat = v35.toInt.toNat + v106.toInt.toNat + 1 by omega]; exact SkR.skip rw118 (by omega)) (by rw [show (0 : Int) = 0 from rfl]; exact rw119) rw120 (by omega) (by omega)
              · skip
                refine tr_aload_n dX8_build_82 hl107 ?_
                refine tr_aload_n dX8_build_83 hl109 ?_
                refine tr_getR dX8_build_84 fl8_72 (kR8 hS113.1 ta2) d44 ?_
                refine tr_iload dX8_build_87 hl111 ?_
                refine q_iald dX8_build_89 (kR27 hS113.1 ta43) (ti_in (nR27 hS113.1 ta43) (by omega) (by omega)) ?_
                intro v151 c152
                have b153 := iv27 hS113.1 ta43 c152
                refine tr_aload_n dX8_build_90 hl109 ?_
                refine tr_getR dX8_build_91 fl8_75 (kR8 hS113.1 ta2) d46 ?_
                refine tr_iload dX8_build_94 hl111 ?_
                refine q_iald dX8_build_96 (kR28 hS113.1 ta45) (ti_in (nR28 hS113.1 ta45) (by omega) (by omega)) ?_
                intro v154 c155
                have b156 := iv28 hS113.1 ta45 c155
                refine q_callVv hE (M' := mX8_layCloud) (as := [_, _]) dX8_build_97 lk8_78 inX8_layCloud seX8_layCloud myX8_layCloud (by decide) ⟨by decide, by decide⟩ rfl (kR12 hS113.1 ta0) (Nat.le_of_ble_eq_true rfl) rfl rfl (by decide) (by decide) (fk_X8_layCloud hS113.1  ta0 (by omega) (by omega)) ?_
                rintro cn' K' N' I157 R158 L159 ⟨rfl, rfl, rfl, rfl, rfl, g160, rp163, rp164, -⟩
                have hS165 := hS113.tr g160 (by decide +kernel) (by decide +kernel)
                have c166 : I157 a0 0 = v114 := (g160.cell ta0 (by decide +kernel)).trans c115
                refine q_iincE dX8_build_100 hl111 (by decide) (by decide) (by intros; omega) ?_
                intro v167 h168
                refine tr_goto 62 dX8_build_103 (by decide) ?_
                exact ih122 _ v167 I157 v114 hl107 hl108 hl109 hl110 rfl hS165 c166 (by omega) (by omega) (by have hx := (hX.2 _ _ v106.toInt.toNat d44 d46 (by rw [c39]; omega)); rw [c36, (show (I0 a43 v106.toInt.toNat) = v151 from (hS113.cell ta43 (wm_no (by decide +kernel))).symm.trans c152), (show (I0 a45 v106.toInt.toNat) = v154 from (hS113.cell ta45 (wm_no (by decide +kernel))).symm.trans c155)] at hx; rw [show v35.toInt.toNat + v167.toInt.toNat = v35.toInt.toNat + v106.toInt.toNat + 1 by omega]; exact SkR.lay (kd := 0) (fr := v151.toInt) (to := v154.toInt) (hut := 0) rw118 (by omega) hx.1 hx.2.1 hx.2.2 (fun w => by exfalso; omega) (fun r hr => LyI.z (fun m => (g160.cell (hS113.1.rs ta0 rfl rfl hr : T r = 35) (wm_no (by decide +kernel)))) (by split <;> omega)) (fun r hr => LyI.z (fun m => (g160.cell (hS113.1.rs ta0 rfl rfl hr : T r = 36) (wm_no (by decide +kernel)))) (by split <;> omega)) (fun r hr => by rw [if_pos rfl]; exact rp163 _ hr) (fun r hr => LyB.z (fun m => (g160.cell (hS113.1.rs ta0 rfl rfl hr : T r = 38) (wm_no (by decide +kernel)))) (by split <;> omega)) (fun r hr => LyB.z (fun m => (g160.cell (hS113.1.rs ta0 rfl rfl hr : T r = 40) (wm_no (by decide +kernel)))) (by split <;> omega))) (by rw [show I157 a0 1 = _ from (g160.cell ta0 (wm_no (by decide +kernel)))]; exact rw119) (rw120.tr rp164) (by omega) (by omega)
        exact lp122 _ _ v104 I90 v92 hl85 hl86 hl87 hl88 rfl hS91 c93 (by omega) (by omega) (by have z := rw96; rw [show v84.toInt.toNat = v35.toInt.toNat + v104.toInt.toNat by omega] at z; exact z) (by rw [show (0 : Int) = 0 from rfl]; exact rw97) rw98 (by omega) (Nat.lt_succ_self _)
      · skip
        refine tr_iload dX8_build_36 hl89 ?_
        refine tr_iload_n dX8_build_38 hl88 ?_
        refine q_icmp_eq 53 dX8_build_39 (by decide) (fun h169 => ?_) (fun h169 => ?_)
        · skip
          refine q_iincE dX8_build_53 hl89 (by decide) (by decide) (by intros; omega) ?_
          intro v170 h171
          refine tr_goto 27 dX8_build_56 (by decide) ?_
          exact ih100 _ v170 I90 v92 hl85 hl86 hl87 hl88 rfl hS91 c93 (by omega) (by omega) (by rw [show v170.toInt.toNat = v84.toInt.toNat + 1 by omega]; exact SkR.skip rw96 (by omega)) (by rw [show (0 : Int) = 0 from rfl]; exact rw97) rw98 (by omega) (by omega)
        · skip
          refine tr_aload_n dX8_build_42 hl85 ?_
          refine tr_aload_n dX8_build_43 hl86 ?_
          refine tr_getR dX8_build_44 fl8_59 (kR2 hS91.1 ta1) d42 ?_
          refine tr_iload dX8_build_47 hl89 ?_
          obtain ⟨a172, d173, ta172⟩ := rf19 hS91.1 ta41 (j := v84.toNatClampNeg) (ti_lt (by omega) (by omega))
          refine tr_aald dX8_build_49 (kR19 hS91.1 ta41) (by decide) (by decide) (ti_in (nR19 hS91.1 ta41) (by omega) (by omega)) d173 ?_
          obtain ⟨v174, c175⟩ : ∃ v, I0 a172 0 = v := ⟨_, rfl⟩
          obtain ⟨v177, c178⟩ : ∃ v, I0 a172 1 = v := ⟨_, rfl⟩
          obtain ⟨v179, c180⟩ : ∃ v, I0 a172 2 = v := ⟨_, rfl⟩
          have b181 := iv3_2 hW0 ta172 c180
          obtain ⟨v182, c183⟩ : ∃ v, I0 a172 3 = v := ⟨_, rfl⟩
          have b184 := iv3_3 hW0 ta172 c183
          have hq176 := hX.1 _ d42 v84.toInt.toNat _ (by rw [c36]; omega) d173
          have hq176k : 0 ≤ v174.toInt ∧ v174.toInt ≤ 4 := by obtain ⟨q0, -, -, -, q4, q5, -⟩ := hq176; rw [c175] at q0; omega
          refine q_callVv hE (M' := mX8_layEvent) (as := [_]) dX8_build_50 lk8_63 inX8_layEvent seX8_layEvent myX8_layEvent (by decide) ⟨by decide, by decide⟩ rfl (kR12 hS91.1 ta0) (Nat.le_of_ble_eq_true rfl) rfl rfl (by decide) (by decide) (fk_X8_layEvent hS91.1  ta0 ta172 (by (try rw [((hS91.cell ta172 (by decide +kernel)).trans c175)]); first | done | with_reducible assumption | omega) (by (try rw [((hS91.cell ta172 (by decide +kernel)).trans c175)]); first | done | with_reducible assumption | omega)) ?_
          rintro cn' K' N' I185 R186 L187 ⟨rfl, rfl, rfl, rfl, rfl, g188, rp191, rp192, rp193, rp194, rp195, rp196, -⟩
          have hS197 := hS91.tr g188 (by decide +kernel) (by decide +kernel)
          have c198 : I185 a0 0 = v92 := (g188.cell ta0 (by decide +kernel)).trans c93
          refine q_iincE dX8_build_53 hl89 (by decide) (by decide) (by have z0 := x3.toInt_lt; have y0 := x3.le_toInt; intros; omega) ?_
          intro v199 h200
          refine tr_goto 27 dX8_build_56 (by decide) ?_
          exact ih100 _ v199 I185 v92 hl85 hl86 hl87 hl88 rfl hS197 c198 (by omega) (by omega) (by rw [show v199.toInt.toNat = v84.toInt.toNat + 1 by omega]; exact SkR.lay rw96 (by omega) (by rw [(hS91.cell ta172 (by decide +kernel))]; exact (hq176.1).symm) (by rw [(hS91.cell ta172 (by decide +kernel))]; exact (hq176.2.2.1).symm) (by rw [(hS91.cell ta172 (by decide +kernel))]; exact (hq176.2.2.2.1).symm) (fun w => by rw [(hS91.cell ta172 (by decide +kernel))] at w; rw [(hS91.cell ta172 (by decide +kernel))]; obtain ⟨q0, q1, -, -, -, -, q6⟩ := hq176; have y := q6 (by omega); omega) rp191 rp192 rp193 rp194 rp195) (by rw [show I185 a0 1 = _ from (g188.cell ta0 (wm_no (by decide +kernel)))]; exact rw97) (rw98.tr rp196) (by omega) (by omega)
  exact lp100 _ _ v82 I71 v29 rfl rfl rfl rfl rfl hS79 c80 (by omega) (by omega) (by rw [show v82.toInt.toNat = 0 by omega]; exact SkR.z (fun r m h hm => rp77 r m h (by rw [c70]; omega))) (by rw [c81, lx65, lx61]; exact Bts.all (by omega) (by omega) (by omega) (by omega)) ((((FrS.rf (R := R0) (sk := a0) (T := T)).po f57 rfl ta0).po f69 rfl ta0).tr rp78) (by omega) (Nat.lt_succ_self _)
def wik_X10_presentSky : List Nat := [73, 768, 769, 778, 2303, 2367, 2431, 2495, 2559, 2623, 2687, 2751, 2815]
def wrk_X10_presentSky : List Nat := []
set_option maxHeartbeats 4000000 in
theorem fk_X10_presentSky {l : Launch} {T : Nat → Nat} {cn : Nat} {K N : Nat → Nat} {I0 : cz_I} {R0 : cz_R} {L0 : cz_L} {d : Int} (hW0 : Wf T cn K N I0 R0 d) (gX : Nat → Nat → Int) (gE : Nat → Nat → Int) (gc : Nat → Int) {a0 : Nat} (ta0 : T a0 = 1) (hX : EvQ I0 R0 a0 gX) (hK : SkQ I0 R0 a0 gX) (hD : DjS R0 a0) (hEa : ∀ al, R0 a0 2 = some al → CVa I0 R0 al gc gE) (hGd : GdE gc gE) (hMs : ∀ nw, R0 a0 6 = some nw → 0 ≤ (I0 nw 0).toInt ∧ (I0 nw 0).toInt ≤ 63) (hNg : NgQ I0 R0 a0 gX gE gc) (hDn : DjN R0 a0) (h1 : 1 ≤ gc 0 ∨ ∀ i, gc i = 0) : ConE l mX10_presentSky [.ref a0] cn K N I0 R0 L0 (ca_r (fun v cn' K' N' I' R' L' => cn = cn' ∧ K = K' ∧ N = N' ∧ R0 = R' ∧ L0 = L' ∧ St T cn K N d wik_X10_presentSky wrk_X10_presentSky I0 R0 I' R0 ∧ T v = 12 ∧ ((I' a0 9).toInt = 1) ∧ (R0 a0 8 = some v) ∧ (SkW I' R0 a0 gX) ∧ (SkX I0 I' R0 a0 gX) ∧ (StW I' R0 a0 gX gE gc) ∧ (NgQ I' R0 a0 gX gE gc) ∧ True)) := by
  refine ConE.of (by decide +kernel) rfl (Nat.le_of_ble_eq_true rfl) rfl (fun X hX hZ hE => ?_)
  subst hX
  have hS0 : St T cn K N d wik_X10_presentSky wrk_X10_presentSky I0 R0 I0 R0 := St.rf0 hW0
  obtain ⟨a1, d2, ta1⟩ := rf1_2 hW0 ta0
  obtain ⟨a3, d4, ta3⟩ := rf1_6 hW0 ta0
  obtain ⟨a5, d6, ta5⟩ := rf1_8 hW0 ta0
  obtain ⟨a7, d8, ta7⟩ := rf1_13 hW0 ta0
  obtain ⟨v9, c10⟩ : ∃ v, I0 a0 9 = v := ⟨_, rfl⟩
  have b11 := iv1_9 hS0.1 ta0 c10
  refine tr_aload_n dX10_presentSky_0 rfl ?_
  refine q_getZ dX10_presentSky_1 fl10_358 (kR1 hS0.1 ta0) c10 ?_
  refine q_if_ne 28 dX10_presentSky_4 (by decide) (fun h12 => ?_) (fun h12 => ?_)
  · skip
    refine tr_aload_n dX10_presentSky_28 rfl ?_
    refine tr_getR dX10_presentSky_29 fl10_49 (kR1 hS0.1 ta0) d6 ?_
    exact tr_aret hZ dX10_presentSky_32 rfl (by decide) (by decide) ⟨a5, rfl, rfl, rfl, rfl, rfl, rfl, hS0, ta5, (by (try rw [c10]); first | done | with_reducible assumption | omega), d6, (hK (by rw [c10]; omega)), (hK (by rw [c10]; omega)), (hNg.1 (by rw [c10]; omega)), hNg, trivial⟩
  · skip
    refine tr_aload_n dX10_presentSky_7 rfl ?_
    refine tr_getR dX10_presentSky_8 fl10_49 (kR1 hS0.1 ta0) d6 ?_
    refine tr_aload_n dX10_presentSky_11 rfl ?_
    refine tr_getR dX10_presentSky_12 fl10_16 (kR1 hS0.1 ta0) d2 ?_
    refine tr_aload_n dX10_presentSky_15 rfl ?_
    refine tr_getR dX10_presentSky_16 fl10_35 (kR1 hS0.1 ta0) d4 ?_
    refine q_iconst dX10_presentSky_19 (by decide) ?_
    intro v13 h14
    refine q_callVv hE (M' := mX8_build) (as := [_, _, _]) dX10_presentSky_20 lk10_237 inX8_build seX8_build myX8_build (by decide) ⟨by decide, by decide⟩ rfl (kR12 hS0.1 ta5) (Nat.le_of_ble_eq_true rfl) rfl rfl (by decide) (by decide) (fk_X8_build hS0.1 (gX) ta5 ta1 ta3 (hX _ _ d2 d4)) ?_
    rintro cn' K' N' I15 R16 L17 ⟨rfl, rfl, rfl, rfl, rfl, g18, rp21, rp22, rp23, rp24, -⟩
    have hS25 := hS0.tr g18 (by decide +kernel) (by decide +kernel)
    have c26 : I15 a0 9 = v9 := (g18.cell ta0 (by decide +kernel)).trans c10
    refine tr_aload_n dX10_presentSky_23 rfl ?_
    refine q_iconst dX10_presentSky_24 (by decide) ?_
    intro v27 h28
    refine q_putZ dX10_presentSky_25 fl10_358 (kR1 hS25.1 ta0) (Or.inl rfl) hS25 ta0 (by omega) (by show (0 : Int) ≤ v27.toInt ∧ v27.toInt ≤ (1 : Int); omega) rfl (by decide +kernel) ?_
    intro I29 hS30 e31 f32
    refine tr_aload_n dX10_presentSky_28 rfl ?_
    refine tr_getR dX10_presentSky_29 fl10_49 (kR1 hS30.1 ta0) d6 ?_
    exact tr_aret hZ dX10_presentSky_32 rfl (by decide) (by decide) ⟨a5, rfl, rfl, rfl, rfl, rfl, rfl, hS30, ta5, (by (try rw [e31]); first | done | with_reducible assumption | omega), d6, (SkW.put (SkW.bld hW0 ta0 g18 (by decide +kernel) d6 d2 d4 (by omega) rp21) hW0 ta0 f32 ta0 (by decide)), (SkX.bld hW0 ta0 d6 d2 d4 (by omega) rp21 f32 ta0 (by decide)), (StW.cg (StW.bld (v := v13) hW0 ta0 d6 d2 d4 (hEa _ d2) g18 (by decide +kernel) rp23 (by omega) rp24) hW0 ta0 (fun al h => f32 _ _ (fun q => by have z := ta0; rw [← q.1, hW0.rs ta0 rfl rfl h] at z; exact absurd z (by decide))) (fun nw h => f32 _ _ (fun q => by have z := ta0; rw [← q.1, hW0.rs ta0 rfl rfl h] at z; exact absurd z (by decide))) (fun sk h => ⟨f32 _ _ (fun q => absurd q.2 (by decide)), f32 _ _ (fun q => absurd q.2 (by decide)), fun r hr j => f32 _ _ (fun q => by have z := ta0; rw [← q.1, hW0.rs (hW0.rs ta0 rfl rfl h : T sk = 12) rfl rfl hr] at z; exact absurd z (by decide))⟩)), (NgQ.skb hNg (by rw [c10]; omega) ((f32 _ _ (fun q => absurd q.2 (by decide))).trans (g18.cell ta0 (by decide +kernel))) (StW.cg (StW.bld (v := v13) hW0 ta0 d6 d2 d4 (hEa _ d2) g18 (by decide +kernel) rp23 (by omega) rp24) hW0 ta0 (fun al h => f32 _ _ (fun q => by have z := ta0; rw [← q.1, hW0.rs ta0 rfl rfl h] at z; exact absurd z (by decide))) (fun nw h => f32 _ _ (fun q => by have z := ta0; rw [← q.1, hW0.rs ta0 rfl rfl h] at z; exact absurd z (by decide))) (fun sk h => ⟨f32 _ _ (fun q => absurd q.2 (by decide)), f32 _ _ (fun q => absurd q.2 (by decide)), fun r hr j => f32 _ _ (fun q => by have z := ta0; rw [← q.1, hW0.rs (hW0.rs ta0 rfl rfl h : T sk = 12) rfl rfl hr] at z; exact absurd z (by decide))⟩))), trivial⟩
set_option maxHeartbeats 4000000 in
theorem fk_X10_allTurners {l : Launch} {T : Nat → Nat} {cn : Nat} {K N : Nat → Nat} {I0 : cz_I} {R0 : cz_R} {L0 : cz_L} {d : Int} (hW0 : Wf T cn K N I0 R0 d)  {a0 : Nat} (ta0 : T a0 = 1) : ConE l mX10_allTurners [.ref a0] cn K N I0 R0 L0 (ca_i (fun v cn' K' N' I' R' L' => cn = cn' ∧ K = K' ∧ N = N' ∧ I0 = I' ∧ R0 = R' ∧ L0 = L' ∧ (∀ al, R0 a0 2 = some al → v.toInt = pw (I0 al 9).toInt - 1) ∧ True)) := by
  refine ConE.of (by decide +kernel) rfl (Nat.le_of_ble_eq_true rfl) rfl (fun X hX hZ hE => ?_)
  subst hX
  obtain ⟨a1, d2, ta1⟩ := rf1_2 hW0 ta0
  refine q_iconst dX10_allTurners_0 (by decide) ?_
  intro v3 h4
  refine tr_aload_n dX10_allTurners_1 rfl ?_
  refine tr_getR dX10_allTurners_2 fl10_16 (kR1 hW0 ta0) d2 ?_
  obtain ⟨v5, c6⟩ : ∃ v, I0 a1 9 = v := ⟨_, rfl⟩
  have b7 := iv2_9 hW0 ta1 c6
  refine q_getI dX10_allTurners_5 fl10_335 (kR2 hW0 ta1) c6 ?_
  refine tr_ishl dX10_allTurners_8 ?_
  obtain ⟨v8, lx9⟩ : ∃ z, z = v3 <<< (v5 &&& 31) := ⟨_, rfl⟩
  rw [← lx9]
  refine q_iconst dX10_allTurners_9 (by decide) ?_
  intro v10 h11
  refine tr_isub dX10_allTurners_10 ?_
  obtain ⟨v12, lx13⟩ : ∃ z, z = v8 - v10 := ⟨_, rfl⟩
  rw [← lx13]
  exact tr_iret hZ dX10_allTurners_11 rfl (by decide) (by decide) ⟨v12, rfl, rfl, rfl, rfl, rfl, rfl, rfl, (fun al hal => by obtain rfl := Option.some.inj (d2.symm.trans hal); rw [c6, lx13, lx9]; exact allT (by omega) (by omega) (by omega) (by omega)), trivial⟩
def wik_J7_fill_53178 : List Nat := [2879]
def wrk_J7_fill_53178 : List Nat := []
set_option maxHeartbeats 4000000 in
theorem fk_J7_fill_53178 {l : Launch} {T : Nat → Nat} {cn : Nat} {K N : Nat → Nat} {I0 : cz_I} {R0 : cz_R} {L0 : cz_L} {d : Int} (hW0 : Wf T cn K N I0 R0 d)  {a0 : Nat} (ta0 : T a0 = 44) {x1 : Int32} : ConE l mJ7_fill_53178 [.ref a0, .int x1] cn K N I0 R0 L0 (ca_v (fun cn' K' N' I' R' L' => cn = cn' ∧ K = K' ∧ N = N' ∧ R0 = R' ∧ L0 = L' ∧ St T cn K N d wik_J7_fill_53178 wrk_J7_fill_53178 I0 R0 I' R0 ∧ (∀ j : Nat, j < 240 → I' a0 j = x1) ∧ (∀ a j, ¬ a = a0 → I' a j = I0 a j) ∧ True)) := by
  refine ConE.of (by decide +kernel) rfl (Nat.le_of_ble_eq_true rfl) rfl (fun X hX hZ hE => ?_)
  subst hX
  have hS0 : St T cn K N d wik_J7_fill_53178 wrk_J7_fill_53178 I0 R0 I0 R0 := St.rf0 hW0
  refine q_iconst dJ7_fill_53178_0 (by decide) ?_
  intro v1 h2
  refine tr_istore_n dJ7_fill_53178_1 (by decide) (by decide) ?_
  refine tr_aload_n dJ7_fill_53178_2 rfl ?_
  refine q_alen dJ7_fill_53178_3 (kR44 hS0.1 ta0) (by decide) (by decide) (nR44 hS0.1 ta0) (by decide +kernel) ?_
  intro v3 h4
  refine tr_istore_n dJ7_fill_53178_4 (by decide) (by decide) ?_
  have lp16 : ∀ (fu : Nat) (ls : Nat → Option Value) (v5 : Int32) (I10 : cz_I), ls 0 = some (.ref a0) → ls 1 = some (.int x1) → ls 2 = some (.int v5) → ls 3 = some (.int v3) → St T cn K N d wik_J7_fill_53178 wrk_J7_fill_53178 I0 R0 I10 R0 → 0 ≤ v5.toInt → v5.toInt ≤ 240 → v3.toInt = 240 → ((∀ j : Nat, (j : Int) < v5.toInt → I10 a0 j = x1) ∧ ∀ a j, ¬ a = a0 → I10 a j = I0 a j) → (-v5.toInt + 2147483647).toNat < fu → Tr X mJ7_fill_53178 5 ls [] cn K N I10 R0 L0 0 0 := by
    intro fu
    induction fu with
    | zero => intros; rename_i hz; exact absurd hz (Nat.not_lt_zero _)
    | succ fu ih16 =>
      intro ls v5 I10 hl6 hl7 hl8 hl9 hS11 g12 g13 g14 rw15 hm16
      refine tr_iload_n dJ7_fill_53178_5 hl8 ?_
      refine tr_iload_n dJ7_fill_53178_6 hl9 ?_
      refine q_icmp_ge 20 dJ7_fill_53178_7 (by decide) (fun h18 => ?_) (fun h18 => ?_)
      · skip
        exact tr_vret hZ dJ7_fill_53178_20 rfl (by decide) (by decide) ⟨rfl, rfl, rfl, rfl, rfl, rfl, hS11, (fun j hj => rw15.1 j (by omega)), rw15.2, trivial⟩
      · skip
        refine tr_aload_n dJ7_fill_53178_10 hl6 ?_
        refine tr_iload_n dJ7_fill_53178_11 hl8 ?_
        refine tr_iload_n dJ7_fill_53178_12 hl7 ?_
        refine q_iast dJ7_fill_53178_13 (kR44 hS11.1 ta0) (ti_in (nR44 hS11.1 ta0) (by omega) (by omega)) hS11 ta0 (iokF rfl) rfl (by rfl) ?_
        intro I19 hS20 e22 f21
        refine q_iincE dJ7_fill_53178_14 hl8 (by decide) (by decide) (by intros; omega) ?_
        intro v23 h24
        refine tr_goto 5 dJ7_fill_53178_17 (by decide) ?_
        exact ih16 _ v23 I19 hl6 hl7 rfl hl9 hS20 (by omega) (by omega) (by omega) ⟨fun j hj => by by_cases z : (j : Int) < v5.toInt; exact (f21 _ _ (fun q => by have y := q.2; have y2 := ti_nat (i := v5) (by omega); omega)).trans (rw15.1 j z); have y2 := ti_nat (i := v5) (by omega); obtain rfl : j = v5.toNatClampNeg := (by omega); exact e22, fun a j ha => (f21 _ _ (fun q => ha q.1)).trans (rw15.2 a j ha)⟩ (by omega)
  exact lp16 _ _ v1 I0 rfl rfl rfl rfl hS0 (by omega) (by omega) (by omega) ⟨fun j hj => by exfalso; omega, fun _ _ _ => rfl⟩ (Nat.lt_succ_self _)
def wik_J7_fill_53178_1 : List Nat := [2943]
def wrk_J7_fill_53178_1 : List Nat := []
set_option maxHeartbeats 4000000 in
theorem fk_J7_fill_53178_1 {l : Launch} {T : Nat → Nat} {cn : Nat} {K N : Nat → Nat} {I0 : cz_I} {R0 : cz_R} {L0 : cz_L} {d : Int} (hW0 : Wf T cn K N I0 R0 d)  {a0 : Nat} (ta0 : T a0 = 45) {x1 : Int32} : ConE l mJ7_fill_53178 [.ref a0, .int x1] cn K N I0 R0 L0 (ca_v (fun cn' K' N' I' R' L' => cn = cn' ∧ K = K' ∧ N = N' ∧ R0 = R' ∧ L0 = L' ∧ St T cn K N d wik_J7_fill_53178_1 wrk_J7_fill_53178_1 I0 R0 I' R0 ∧ (∀ j : Nat, j < 8 → I' a0 j = x1) ∧ (∀ a j, ¬ a = a0 → I' a j = I0 a j) ∧ True)) := by
  refine ConE.of (by decide +kernel) rfl (Nat.le_of_ble_eq_true rfl) rfl (fun X hX hZ hE => ?_)
  subst hX
  have hS0 : St T cn K N d wik_J7_fill_53178_1 wrk_J7_fill_53178_1 I0 R0 I0 R0 := St.rf0 hW0
  refine q_iconst dJ7_fill_53178_0 (by decide) ?_
  intro v1 h2
  refine tr_istore_n dJ7_fill_53178_1 (by decide) (by decide) ?_
  refine tr_aload_n dJ7_fill_53178_2 rfl ?_
  refine q_alen dJ7_fill_53178_3 (kR45 hS0.1 ta0) (by decide) (by decide) (nR45 hS0.1 ta0) (by decide +kernel) ?_
  intro v3 h4
  refine tr_istore_n dJ7_fill_53178_4 (by decide) (by decide) ?_
  have lp16 : ∀ (fu : Nat) (ls : Nat → Option Value) (v5 : Int32) (I10 : cz_I), ls 0 = some (.ref a0) → ls 1 = some (.int x1) → ls 2 = some (.int v5) → ls 3 = some (.int v3) → St T cn K N d wik_J7_fill_53178_1 wrk_J7_fill_53178_1 I0 R0 I10 R0 → 0 ≤ v5.toInt → v5.toInt ≤ 8 → v3.toInt = 8 → ((∀ j : Nat, (j : Int) < v5.toInt → I10 a0 j = x1) ∧ ∀ a j, ¬ a = a0 → I10 a j = I0 a j) → (-v5.toInt + 2147483647).toNat < fu → Tr X mJ7_fill_53178 5 ls [] cn K N I10 R0 L0 0 0 := by
    intro fu
    induction fu with
    | zero => intros; rename_i hz; exact absurd hz (Nat.not_lt_zero _)
    | succ fu ih16 =>
      intro ls v5 I10 hl6 hl7 hl8 hl9 hS11 g12 g13 g14 rw15 hm16
      refine tr_iload_n dJ7_fill_53178_5 hl8 ?_
      refine tr_iload_n dJ7_fill_53178_6 hl9 ?_
      refine q_icmp_ge 20 dJ7_fill_53178_7 (by decide) (fun h18 => ?_) (fun h18 => ?_)
      · skip
        exact tr_vret hZ dJ7_fill_53178_20 rfl (by decide) (by decide) ⟨rfl, rfl, rfl, rfl, rfl, rfl, hS11, (fun j hj => rw15.1 j (by omega)), rw15.2, trivial⟩
      · skip
        refine tr_aload_n dJ7_fill_53178_10 hl6 ?_
        refine tr_iload_n dJ7_fill_53178_11 hl8 ?_
        refine tr_iload_n dJ7_fill_53178_12 hl7 ?_
        refine q_iast dJ7_fill_53178_13 (kR45 hS11.1 ta0) (ti_in (nR45 hS11.1 ta0) (by omega) (by omega)) hS11 ta0 (iokF rfl) rfl (by rfl) ?_
        intro I19 hS20 e22 f21
        refine q_iincE dJ7_fill_53178_14 hl8 (by decide) (by decide) (by intros; omega) ?_
        intro v23 h24
        refine tr_goto 5 dJ7_fill_53178_17 (by decide) ?_
        exact ih16 _ v23 I19 hl6 hl7 rfl hl9 hS20 (by omega) (by omega) (by omega) ⟨fun j hj => by by_cases z : (j : Int) < v5.toInt; exact (f21 _ _ (fun q => by have y := q.2; have y2 := ti_nat (i := v5) (by omega); omega)).trans (rw15.1 j z); have y2 := ti_nat (i := v5) (by omega); obtain rfl : j = v5.toNatClampNeg := (by omega); exact e22, fun a j ha => (f21 _ _ (fun q => ha q.1)).trans (rw15.2 a j ha)⟩ (by omega)
  exact lp16 _ _ v1 I0 rfl rfl rfl rfl hS0 (by omega) (by omega) (by omega) ⟨fun j hj => by exfalso; omega, fun _ _ _ => rfl⟩ (Nat.lt_succ_self _)
def wik_J7_fill_53178_2 : List Nat := [3007]
def wrk_J7_fill_53178_2 : List Nat := []
set_option maxHeartbeats 4000000 in
theorem fk_J7_fill_53178_2 {l : Launch} {T : Nat → Nat} {cn : Nat} {K N : Nat → Nat} {I0 : cz_I} {R0 : cz_R} {L0 : cz_L} {d : Int} (hW0 : Wf T cn K N I0 R0 d)  {a0 : Nat} (ta0 : T a0 = 46) {x1 : Int32} : ConE l mJ7_fill_53178 [.ref a0, .int x1] cn K N I0 R0 L0 (ca_v (fun cn' K' N' I' R' L' => cn = cn' ∧ K = K' ∧ N = N' ∧ R0 = R' ∧ L0 = L' ∧ St T cn K N d wik_J7_fill_53178_2 wrk_J7_fill_53178_2 I0 R0 I' R0 ∧ (∀ j : Nat, j < 8 → I' a0 j = x1) ∧ (∀ a j, ¬ a = a0 → I' a j = I0 a j) ∧ True)) := by
  refine ConE.of (by decide +kernel) rfl (Nat.le_of_ble_eq_true rfl) rfl (fun X hX hZ hE => ?_)
  subst hX
  have hS0 : St T cn K N d wik_J7_fill_53178_2 wrk_J7_fill_53178_2 I0 R0 I0 R0 := St.rf0 hW0
  refine q_iconst dJ7_fill_53178_0 (by decide) ?_
  intro v1 h2
  refine tr_istore_n dJ7_fill_53178_1 (by decide) (by decide) ?_
  refine tr_aload_n dJ7_fill_53178_2 rfl ?_
  refine q_alen dJ7_fill_53178_3 (kR46 hS0.1 ta0) (by decide) (by decide) (nR46 hS0.1 ta0) (by decide +kernel) ?_
  intro v3 h4
  refine tr_istore_n dJ7_fill_53178_4 (by decide) (by decide) ?_
  have lp16 : ∀ (fu : Nat) (ls : Nat → Option Value) (v5 : Int32) (I10 : cz_I), ls 0 = some (.ref a0) → ls 1 = some (.int x1) → ls 2 = some (.int v5) → ls 3 = some (.int v3) → St T cn K N d wik_J7_fill_53178_2 wrk_J7_fill_53178_2 I0 R0 I10 R0 → 0 ≤ v5.toInt → v5.toInt ≤ 8 → v3.toInt = 8 → ((∀ j : Nat, (j : Int) < v5.toInt → I10 a0 j = x1) ∧ ∀ a j, ¬ a = a0 → I10 a j = I0 a j) → (-v5.toInt + 2147483647).toNat < fu → Tr X mJ7_fill_53178 5 ls [] cn K N I10 R0 L0 0 0 := by
    intro fu
    induction fu with
    | zero => intros; rename_i hz; exact absurd hz (Nat.not_lt_zero _)
    | succ fu ih16 =>
      intro ls v5 I10 hl6 hl7 hl8 hl9 hS11 g12 g13 g14 rw15 hm16
      refine tr_iload_n dJ7_fill_53178_5 hl8 ?_
      refine tr_iload_n dJ7_fill_53178_6 hl9 ?_
      refine q_icmp_ge 20 dJ7_fill_53178_7 (by decide) (fun h18 => ?_) (fun h18 => ?_)
      · skip
        exact tr_vret hZ dJ7_fill_53178_20 rfl (by decide) (by decide) ⟨rfl, rfl, rfl, rfl, rfl, rfl, hS11, (fun j hj => rw15.1 j (by omega)), rw15.2, trivial⟩
      · skip
        refine tr_aload_n dJ7_fill_53178_10 hl6 ?_
        refine tr_iload_n dJ7_fill_53178_11 hl8 ?_
        refine tr_iload_n dJ7_fill_53178_12 hl7 ?_
        refine q_iast dJ7_fill_53178_13 (kR46 hS11.1 ta0) (ti_in (nR46 hS11.1 ta0) (by omega) (by omega)) hS11 ta0 (iokF rfl) rfl (by rfl) ?_
        intro I19 hS20 e22 f21
        refine q_iincE dJ7_fill_53178_14 hl8 (by decide) (by decide) (by intros; omega) ?_
        intro v23 h24
        refine tr_goto 5 dJ7_fill_53178_17 (by decide) ?_
        exact ih16 _ v23 I19 hl6 hl7 rfl hl9 hS20 (by omega) (by omega) (by omega) ⟨fun j hj => by by_cases z : (j : Int) < v5.toInt; exact (f21 _ _ (fun q => by have y := q.2; have y2 := ti_nat (i := v5) (by omega); omega)).trans (rw15.1 j z); have y2 := ti_nat (i := v5) (by omega); obtain rfl : j = v5.toNatClampNeg := (by omega); exact e22, fun a j ha => (f21 _ _ (fun q => ha q.1)).trans (rw15.2 a j ha)⟩ (by omega)
  exact lp16 _ _ v1 I0 rfl rfl rfl rfl hS0 (by omega) (by omega) (by omega) ⟨fun j hj => by exfalso; omega, fun _ _ _ => rfl⟩ (Nat.lt_succ_self _)
def wik_J7_fill_53178_3 : List Nat := [3071]
def wrk_J7_fill_53178_3 : List Nat := []
set_option maxHeartbeats 4000000 in
theorem fk_J7_fill_53178_3 {l : Launch} {T : Nat → Nat} {cn : Nat} {K N : Nat → Nat} {I0 : cz_I} {R0 : cz_R} {L0 : cz_L} {d : Int} (hW0 : Wf T cn K N I0 R0 d)  {a0 : Nat} (ta0 : T a0 = 47) {x1 : Int32} : ConE l mJ7_fill_53178 [.ref a0, .int x1] cn K N I0 R0 L0 (ca_v (fun cn' K' N' I' R' L' => cn = cn' ∧ K = K' ∧ N = N' ∧ R0 = R' ∧ L0 = L' ∧ St T cn K N d wik_J7_fill_53178_3 wrk_J7_fill_53178_3 I0 R0 I' R0 ∧ (∀ j : Nat, j < 8 → I' a0 j = x1) ∧ (∀ a j, ¬ a = a0 → I' a j = I0 a j) ∧ True)) := by
  refine ConE.of (by decide +kernel) rfl (Nat.le_of_ble_eq_true rfl) rfl (fun X hX hZ hE => ?_)
  subst hX
  have hS0 : St T cn K N d wik_J7_fill_53178_3 wrk_J7_fill_53178_3 I0 R0 I0 R0 := St.rf0 hW0
  refine q_iconst dJ7_fill_53178_0 (by decide) ?_
  intro v1 h2
  refine tr_istore_n dJ7_fill_53178_1 (by decide) (by decide) ?_
  refine tr_aload_n dJ7_fill_53178_2 rfl ?_
  refine q_alen dJ7_fill_53178_3 (kR47 hS0.1 ta0) (by decide) (by decide) (nR47 hS0.1 ta0) (by decide +kernel) ?_
  intro v3 h4
  refine tr_istore_n dJ7_fill_53178_4 (by decide) (by decide) ?_
  have lp16 : ∀ (fu : Nat) (ls : Nat → Option Value) (v5 : Int32) (I10 : cz_I), ls 0 = some (.ref a0) → ls 1 = some (.int x1) → ls 2 = some (.int v5) → ls 3 = some (.int v3) → St T cn K N d wik_J7_fill_53178_3 wrk_J7_fill_53178_3 I0 R0 I10 R0 → 0 ≤ v5.toInt → v5.toInt ≤ 8 → v3.toInt = 8 → ((∀ j : Nat, (j : Int) < v5.toInt → I10 a0 j = x1) ∧ ∀ a j, ¬ a = a0 → I10 a j = I0 a j) → (-v5.toInt + 2147483647).toNat < fu → Tr X mJ7_fill_53178 5 ls [] cn K N I10 R0 L0 0 0 := by
    intro fu
    induction fu with
    | zero => intros; rename_i hz; exact absurd hz (Nat.not_lt_zero _)
    | succ fu ih16 =>
      intro ls v5 I10 hl6 hl7 hl8 hl9 hS11 g12 g13 g14 rw15 hm16
      refine tr_iload_n dJ7_fill_53178_5 hl8 ?_
      refine tr_iload_n dJ7_fill_53178_6 hl9 ?_
      refine q_icmp_ge 20 dJ7_fill_53178_7 (by decide) (fun h18 => ?_) (fun h18 => ?_)
      · skip
        exact tr_vret hZ dJ7_fill_53178_20 rfl (by decide) (by decide) ⟨rfl, rfl, rfl, rfl, rfl, rfl, hS11, (fun j hj => rw15.1 j (by omega)), rw15.2, trivial⟩
      · skip
        refine tr_aload_n dJ7_fill_53178_10 hl6 ?_
        refine tr_iload_n dJ7_fill_53178_11 hl8 ?_
        refine tr_iload_n dJ7_fill_53178_12 hl7 ?_
        refine q_iast dJ7_fill_53178_13 (kR47 hS11.1 ta0) (ti_in (nR47 hS11.1 ta0) (by omega) (by omega)) hS11 ta0 (iokF rfl) rfl (by rfl) ?_
        intro I19 hS20 e22 f21
        refine q_iincE dJ7_fill_53178_14 hl8 (by decide) (by decide) (by intros; omega) ?_
        intro v23 h24
        refine tr_goto 5 dJ7_fill_53178_17 (by decide) ?_
        exact ih16 _ v23 I19 hl6 hl7 rfl hl9 hS20 (by omega) (by omega) (by omega) ⟨fun j hj => by by_cases z : (j : Int) < v5.toInt; exact (f21 _ _ (fun q => by have y := q.2; have y2 := ti_nat (i := v5) (by omega); omega)).trans (rw15.1 j z); have y2 := ti_nat (i := v5) (by omega); obtain rfl : j = v5.toNatClampNeg := (by omega); exact e22, fun a j ha => (f21 _ _ (fun q => ha q.1)).trans (rw15.2 a j ha)⟩ (by omega)
  exact lp16 _ _ v1 I0 rfl rfl rfl rfl hS0 (by omega) (by omega) (by omega) ⟨fun j hj => by exfalso; omega, fun _ _ _ => rfl⟩ (Nat.lt_succ_self _)
def wik_J7_fill_53178_4 : List Nat := [3135]
def wrk_J7_fill_53178_4 : List Nat := []
set_option maxHeartbeats 4000000 in
theorem fk_J7_fill_53178_4 {l : Launch} {T : Nat → Nat} {cn : Nat} {K N : Nat → Nat} {I0 : cz_I} {R0 : cz_R} {L0 : cz_L} {d : Int} (hW0 : Wf T cn K N I0 R0 d)  {a0 : Nat} (ta0 : T a0 = 48) {x1 : Int32} : ConE l mJ7_fill_53178 [.ref a0, .int x1] cn K N I0 R0 L0 (ca_v (fun cn' K' N' I' R' L' => cn = cn' ∧ K = K' ∧ N = N' ∧ R0 = R' ∧ L0 = L' ∧ St T cn K N d wik_J7_fill_53178_4 wrk_J7_fill_53178_4 I0 R0 I' R0 ∧ (∀ j : Nat, j < 8 → I' a0 j = x1) ∧ (∀ a j, ¬ a = a0 → I' a j = I0 a j) ∧ True)) := by
  refine ConE.of (by decide +kernel) rfl (Nat.le_of_ble_eq_true rfl) rfl (fun X hX hZ hE => ?_)
  subst hX
  have hS0 : St T cn K N d wik_J7_fill_53178_4 wrk_J7_fill_53178_4 I0 R0 I0 R0 := St.rf0 hW0
  refine q_iconst dJ7_fill_53178_0 (by decide) ?_
  intro v1 h2
  refine tr_istore_n dJ7_fill_53178_1 (by decide) (by decide) ?_
  refine tr_aload_n dJ7_fill_53178_2 rfl ?_
  refine q_alen dJ7_fill_53178_3 (kR48 hS0.1 ta0) (by decide) (by decide) (nR48 hS0.1 ta0) (by decide +kernel) ?_
  intro v3 h4
  refine tr_istore_n dJ7_fill_53178_4 (by decide) (by decide) ?_
  have lp16 : ∀ (fu : Nat) (ls : Nat → Option Value) (v5 : Int32) (I10 : cz_I), ls 0 = some (.ref a0) → ls 1 = some (.int x1) → ls 2 = some (.int v5) → ls 3 = some (.int v3) → St T cn K N d wik_J7_fill_53178_4 wrk_J7_fill_53178_4 I0 R0 I10 R0 → 0 ≤ v5.toInt → v5.toInt ≤ 8 → v3.toInt = 8 → ((∀ j : Nat, (j : Int) < v5.toInt → I10 a0 j = x1) ∧ ∀ a j, ¬ a = a0 → I10 a j = I0 a j) → (-v5.toInt + 2147483647).toNat < fu → Tr X mJ7_fill_53178 5 ls [] cn K N I10 R0 L0 0 0 := by
    intro fu
    induction fu with
    | zero => intros; rename_i hz; exact absurd hz (Nat.not_lt_zero _)
    | succ fu ih16 =>
      intro ls v5 I10 hl6 hl7 hl8 hl9 hS11 g12 g13 g14 rw15 hm16
      refine tr_iload_n dJ7_fill_53178_5 hl8 ?_
      refine tr_iload_n dJ7_fill_53178_6 hl9 ?_
      refine q_icmp_ge 20 dJ7_fill_53178_7 (by decide) (fun h18 => ?_) (fun h18 => ?_)
      · skip
        exact tr_vret hZ dJ7_fill_53178_20 rfl (by decide) (by decide) ⟨rfl, rfl, rfl, rfl, rfl, rfl, hS11, (fun j hj => rw15.1 j (by omega)), rw15.2, trivial⟩
      · skip
        refine tr_aload_n dJ7_fill_53178_10 hl6 ?_
        refine tr_iload_n dJ7_fill_53178_11 hl8 ?_
        refine tr_iload_n dJ7_fill_53178_12 hl7 ?_
        refine q_iast dJ7_fill_53178_13 (kR48 hS11.1 ta0) (ti_in (nR48 hS11.1 ta0) (by omega) (by omega)) hS11 ta0 (iokF rfl) rfl (by rfl) ?_
        intro I19 hS20 e22 f21
        refine q_iincE dJ7_fill_53178_14 hl8 (by decide) (by decide) (by intros; omega) ?_
        intro v23 h24
        refine tr_goto 5 dJ7_fill_53178_17 (by decide) ?_
        exact ih16 _ v23 I19 hl6 hl7 rfl hl9 hS20 (by omega) (by omega) (by omega) ⟨fun j hj => by by_cases z : (j : Int) < v5.toInt; exact (f21 _ _ (fun q => by have y := q.2; have y2 := ti_nat (i := v5) (by omega); omega)).trans (rw15.1 j z); have y2 := ti_nat (i := v5) (by omega); obtain rfl : j = v5.toNatClampNeg := (by omega); exact e22, fun a j ha => (f21 _ _ (fun q => ha q.1)).trans (rw15.2 a j ha)⟩ (by omega)
  exact lp16 _ _ v1 I0 rfl rfl rfl rfl hS0 (by omega) (by omega) (by omega) ⟨fun j hj => by exfalso; omega, fun _ _ _ => rfl⟩ (Nat.lt_succ_self _)
def wik_J7_fill_53178_5 : List Nat := [3199]
def wrk_J7_fill_53178_5 : List Nat := []
set_option maxHeartbeats 4000000 in
theorem fk_J7_fill_53178_5 {l : Launch} {T : Nat → Nat} {cn : Nat} {K N : Nat → Nat} {I0 : cz_I} {R0 : cz_R} {L0 : cz_L} {d : Int} (hW0 : Wf T cn K N I0 R0 d)  {a0 : Nat} (ta0 : T a0 = 49) {x1 : Int32} : ConE l mJ7_fill_53178 [.ref a0, .int x1] cn K N I0 R0 L0 (ca_v (fun cn' K' N' I' R' L' => cn = cn' ∧ K = K' ∧ N = N' ∧ R0 = R' ∧ L0 = L' ∧ St T cn K N d wik_J7_fill_53178_5 wrk_J7_fill_53178_5 I0 R0 I' R0 ∧ (∀ j : Nat, j < 5 → I' a0 j = x1) ∧ (∀ a j, ¬ a = a0 → I' a j = I0 a j) ∧ True)) := by
  refine ConE.of (by decide +kernel) rfl (Nat.le_of_ble_eq_true rfl) rfl (fun X hX hZ hE => ?_)
  subst hX
  have hS0 : St T cn K N d wik_J7_fill_53178_5 wrk_J7_fill_53178_5 I0 R0 I0 R0 := St.rf0 hW0
  refine q_iconst dJ7_fill_53178_0 (by decide) ?_
  intro v1 h2
  refine tr_istore_n dJ7_fill_53178_1 (by decide) (by decide) ?_
  refine tr_aload_n dJ7_fill_53178_2 rfl ?_
  refine q_alen dJ7_fill_53178_3 (kR49 hS0.1 ta0) (by decide) (by decide) (nR49 hS0.1 ta0) (by decide +kernel) ?_
  intro v3 h4
  refine tr_istore_n dJ7_fill_53178_4 (by decide) (by decide) ?_
  have lp16 : ∀ (fu : Nat) (ls : Nat → Option Value) (v5 : Int32) (I10 : cz_I), ls 0 = some (.ref a0) → ls 1 = some (.int x1) → ls 2 = some (.int v5) → ls 3 = some (.int v3) → St T cn K N d wik_J7_fill_53178_5 wrk_J7_fill_53178_5 I0 R0 I10 R0 → 0 ≤ v5.toInt → v5.toInt ≤ 5 → v3.toInt = 5 → ((∀ j : Nat, (j : Int) < v5.toInt → I10 a0 j = x1) ∧ ∀ a j, ¬ a = a0 → I10 a j = I0 a j) → (-v5.toInt + 2147483647).toNat < fu → Tr X mJ7_fill_53178 5 ls [] cn K N I10 R0 L0 0 0 := by
    intro fu
    induction fu with
    | zero => intros; rename_i hz; exact absurd hz (Nat.not_lt_zero _)
    | succ fu ih16 =>
      intro ls v5 I10 hl6 hl7 hl8 hl9 hS11 g12 g13 g14 rw15 hm16
      refine tr_iload_n dJ7_fill_53178_5 hl8 ?_
      refine tr_iload_n dJ7_fill_53178_6 hl9 ?_
      refine q_icmp_ge 20 dJ7_fill_53178_7 (by decide) (fun h18 => ?_) (fun h18 => ?_)
      · skip
        exact tr_vret hZ dJ7_fill_53178_20 rfl (by decide) (by decide) ⟨rfl, rfl, rfl, rfl, rfl, rfl, hS11, (fun j hj => rw15.1 j (by omega)), rw15.2, trivial⟩
      · skip
        refine tr_aload_n dJ7_fill_53178_10 hl6 ?_
        refine tr_iload_n dJ7_fill_53178_11 hl8 ?_
        refine tr_iload_n dJ7_fill_53178_12 hl7 ?_
        refine q_iast dJ7_fill_53178_13 (kR49 hS11.1 ta0) (ti_in (nR49 hS11.1 ta0) (by omega) (by omega)) hS11 ta0 (iokF rfl) rfl (by rfl) ?_
        intro I19 hS20 e22 f21
        refine q_iincE dJ7_fill_53178_14 hl8 (by decide) (by decide) (by intros; omega) ?_
        intro v23 h24
        refine tr_goto 5 dJ7_fill_53178_17 (by decide) ?_
        exact ih16 _ v23 I19 hl6 hl7 rfl hl9 hS20 (by omega) (by omega) (by omega) ⟨fun j hj => by by_cases z : (j : Int) < v5.toInt; exact (f21 _ _ (fun q => by have y := q.2; have y2 := ti_nat (i := v5) (by omega); omega)).trans (rw15.1 j z); have y2 := ti_nat (i := v5) (by omega); obtain rfl : j = v5.toNatClampNeg := (by omega); exact e22, fun a j ha => (f21 _ _ (fun q => ha q.1)).trans (rw15.2 a j ha)⟩ (by omega)
  exact lp16 _ _ v1 I0 rfl rfl rfl rfl hS0 (by omega) (by omega) (by omega) ⟨fun j hj => by exfalso; omega, fun _ _ _ => rfl⟩ (Nat.lt_succ_self _)
def wik_J7_fill_53178_6 : List Nat := [3263]
def wrk_J7_fill_53178_6 : List Nat := []
set_option maxHeartbeats 4000000 in
theorem fk_J7_fill_53178_6 {l : Launch} {T : Nat → Nat} {cn : Nat} {K N : Nat → Nat} {I0 : cz_I} {R0 : cz_R} {L0 : cz_L} {d : Int} (hW0 : Wf T cn K N I0 R0 d)  {a0 : Nat} (ta0 : T a0 = 50) {x1 : Int32} : ConE l mJ7_fill_53178 [.ref a0, .int x1] cn K N I0 R0 L0 (ca_v (fun cn' K' N' I' R' L' => cn = cn' ∧ K = K' ∧ N = N' ∧ R0 = R' ∧ L0 = L' ∧ St T cn K N d wik_J7_fill_53178_6 wrk_J7_fill_53178_6 I0 R0 I' R0 ∧ (∀ j : Nat, j < 5 → I' a0 j = x1) ∧ (∀ a j, ¬ a = a0 → I' a j = I0 a j) ∧ True)) := by
  refine ConE.of (by decide +kernel) rfl (Nat.le_of_ble_eq_true rfl) rfl (fun X hX hZ hE => ?_)
  subst hX
  have hS0 : St T cn K N d wik_J7_fill_53178_6 wrk_J7_fill_53178_6 I0 R0 I0 R0 := St.rf0 hW0
  refine q_iconst dJ7_fill_53178_0 (by decide) ?_
  intro v1 h2
  refine tr_istore_n dJ7_fill_53178_1 (by decide) (by decide) ?_
  refine tr_aload_n dJ7_fill_53178_2 rfl ?_
  refine q_alen dJ7_fill_53178_3 (kR50 hS0.1 ta0) (by decide) (by decide) (nR50 hS0.1 ta0) (by decide +kernel) ?_
  intro v3 h4
  refine tr_istore_n dJ7_fill_53178_4 (by decide) (by decide) ?_
  have lp16 : ∀ (fu : Nat) (ls : Nat → Option Value) (v5 : Int32) (I10 : cz_I), ls 0 = some (.ref a0) → ls 1 = some (.int x1) → ls 2 = some (.int v5) → ls 3 = some (.int v3) → St T cn K N d wik_J7_fill_53178_6 wrk_J7_fill_53178_6 I0 R0 I10 R0 → 0 ≤ v5.toInt → v5.toInt ≤ 5 → v3.toInt = 5 → ((∀ j : Nat, (j : Int) < v5.toInt → I10 a0 j = x1) ∧ ∀ a j, ¬ a = a0 → I10 a j = I0 a j) → (-v5.toInt + 2147483647).toNat < fu → Tr X mJ7_fill_53178 5 ls [] cn K N I10 R0 L0 0 0 := by
    intro fu
    induction fu with
    | zero => intros; rename_i hz; exact absurd hz (Nat.not_lt_zero _)
    | succ fu ih16 =>
      intro ls v5 I10 hl6 hl7 hl8 hl9 hS11 g12 g13 g14 rw15 hm16
      refine tr_iload_n dJ7_fill_53178_5 hl8 ?_
      refine tr_iload_n dJ7_fill_53178_6 hl9 ?_
      refine q_icmp_ge 20 dJ7_fill_53178_7 (by decide) (fun h18 => ?_) (fun h18 => ?_)
      · skip
        exact tr_vret hZ dJ7_fill_53178_20 rfl (by decide) (by decide) ⟨rfl, rfl, rfl, rfl, rfl, rfl, hS11, (fun j hj => rw15.1 j (by omega)), rw15.2, trivial⟩
      · skip
        refine tr_aload_n dJ7_fill_53178_10 hl6 ?_
        refine tr_iload_n dJ7_fill_53178_11 hl8 ?_
        refine tr_iload_n dJ7_fill_53178_12 hl7 ?_
        refine q_iast dJ7_fill_53178_13 (kR50 hS11.1 ta0) (ti_in (nR50 hS11.1 ta0) (by omega) (by omega)) hS11 ta0 (iokF rfl) rfl (by rfl) ?_
        intro I19 hS20 e22 f21
        refine q_iincE dJ7_fill_53178_14 hl8 (by decide) (by decide) (by intros; omega) ?_
        intro v23 h24
        refine tr_goto 5 dJ7_fill_53178_17 (by decide) ?_
        exact ih16 _ v23 I19 hl6 hl7 rfl hl9 hS20 (by omega) (by omega) (by omega) ⟨fun j hj => by by_cases z : (j : Int) < v5.toInt; exact (f21 _ _ (fun q => by have y := q.2; have y2 := ti_nat (i := v5) (by omega); omega)).trans (rw15.1 j z); have y2 := ti_nat (i := v5) (by omega); obtain rfl : j = v5.toNatClampNeg := (by omega); exact e22, fun a j ha => (f21 _ _ (fun q => ha q.1)).trans (rw15.2 a j ha)⟩ (by omega)
  exact lp16 _ _ v1 I0 rfl rfl rfl rfl hS0 (by omega) (by omega) (by omega) ⟨fun j hj => by exfalso; omega, fun _ _ _ => rfl⟩ (Nat.lt_succ_self _)
def wik_J7_fill_53178_7 : List Nat := [3327]
def wrk_J7_fill_53178_7 : List Nat := []
set_option maxHeartbeats 4000000 in
theorem fk_J7_fill_53178_7 {l : Launch} {T : Nat → Nat} {cn : Nat} {K N : Nat → Nat} {I0 : cz_I} {R0 : cz_R} {L0 : cz_L} {d : Int} (hW0 : Wf T cn K N I0 R0 d)  {a0 : Nat} (ta0 : T a0 = 51) {x1 : Int32} : ConE l mJ7_fill_53178 [.ref a0, .int x1] cn K N I0 R0 L0 (ca_v (fun cn' K' N' I' R' L' => cn = cn' ∧ K = K' ∧ N = N' ∧ R0 = R' ∧ L0 = L' ∧ St T cn K N d wik_J7_fill_53178_7 wrk_J7_fill_53178_7 I0 R0 I' R0 ∧ (∀ j : Nat, j < 5 → I' a0 j = x1) ∧ (∀ a j, ¬ a = a0 → I' a j = I0 a j) ∧ True)) := by
  refine ConE.of (by decide +kernel) rfl (Nat.le_of_ble_eq_true rfl) rfl (fun X hX hZ hE => ?_)
  subst hX
  have hS0 : St T cn K N d wik_J7_fill_53178_7 wrk_J7_fill_53178_7 I0 R0 I0 R0 := St.rf0 hW0
  refine q_iconst dJ7_fill_53178_0 (by decide) ?_
  intro v1 h2
  refine tr_istore_n dJ7_fill_53178_1 (by decide) (by decide) ?_
  refine tr_aload_n dJ7_fill_53178_2 rfl ?_
  refine q_alen dJ7_fill_53178_3 (kR51 hS0.1 ta0) (by decide) (by decide) (nR51 hS0.1 ta0) (by decide +kernel) ?_
  intro v3 h4
  refine tr_istore_n dJ7_fill_53178_4 (by decide) (by decide) ?_
  have lp16 : ∀ (fu : Nat) (ls : Nat → Option Value) (v5 : Int32) (I10 : cz_I), ls 0 = some (.ref a0) → ls 1 = some (.int x1) → ls 2 = some (.int v5) → ls 3 = some (.int v3) → St T cn K N d wik_J7_fill_53178_7 wrk_J7_fill_53178_7 I0 R0 I10 R0 → 0 ≤ v5.toInt → v5.toInt ≤ 5 → v3.toInt = 5 → ((∀ j : Nat, (j : Int) < v5.toInt → I10 a0 j = x1) ∧ ∀ a j, ¬ a = a0 → I10 a j = I0 a j) → (-v5.toInt + 2147483647).toNat < fu → Tr X mJ7_fill_53178 5 ls [] cn K N I10 R0 L0 0 0 := by
    intro fu
    induction fu with
    | zero => intros; rename_i hz; exact absurd hz (Nat.not_lt_zero _)
    | succ fu ih16 =>
      intro ls v5 I10 hl6 hl7 hl8 hl9 hS11 g12 g13 g14 rw15 hm16
      refine tr_iload_n dJ7_fill_53178_5 hl8 ?_
      refine tr_iload_n dJ7_fill_53178_6 hl9 ?_
      refine q_icmp_ge 20 dJ7_fill_53178_7 (by decide) (fun h18 => ?_) (fun h18 => ?_)
      · skip
        exact tr_vret hZ dJ7_fill_53178_20 rfl (by decide) (by decide) ⟨rfl, rfl, rfl, rfl, rfl, rfl, hS11, (fun j hj => rw15.1 j (by omega)), rw15.2, trivial⟩
      · skip
        refine tr_aload_n dJ7_fill_53178_10 hl6 ?_
        refine tr_iload_n dJ7_fill_53178_11 hl8 ?_
        refine tr_iload_n dJ7_fill_53178_12 hl7 ?_
        refine q_iast dJ7_fill_53178_13 (kR51 hS11.1 ta0) (ti_in (nR51 hS11.1 ta0) (by omega) (by omega)) hS11 ta0 (iokF rfl) rfl (by rfl) ?_
        intro I19 hS20 e22 f21
        refine q_iincE dJ7_fill_53178_14 hl8 (by decide) (by decide) (by intros; omega) ?_
        intro v23 h24
        refine tr_goto 5 dJ7_fill_53178_17 (by decide) ?_
        exact ih16 _ v23 I19 hl6 hl7 rfl hl9 hS20 (by omega) (by omega) (by omega) ⟨fun j hj => by by_cases z : (j : Int) < v5.toInt; exact (f21 _ _ (fun q => by have y := q.2; have y2 := ti_nat (i := v5) (by omega); omega)).trans (rw15.1 j z); have y2 := ti_nat (i := v5) (by omega); obtain rfl : j = v5.toNatClampNeg := (by omega); exact e22, fun a j ha => (f21 _ _ (fun q => ha q.1)).trans (rw15.2 a j ha)⟩ (by omega)
  exact lp16 _ _ v1 I0 rfl rfl rfl rfl hS0 (by omega) (by omega) (by omega) ⟨fun j hj => by exfalso; omega, fun _ _ _ => rfl⟩ (Nat.lt_succ_self _)
def wik_J7_fill_53178_8 : List Nat := [3391]
def wrk_J7_fill_53178_8 : List Nat := []
set_option maxHeartbeats 4000000 in
theorem fk_J7_fill_53178_8 {l : Launch} {T : Nat → Nat} {cn : Nat} {K N : Nat → Nat} {I0 : cz_I} {R0 : cz_R} {L0 : cz_L} {d : Int} (hW0 : Wf T cn K N I0 R0 d)  {a0 : Nat} (ta0 : T a0 = 52) {x1 : Int32} : ConE l mJ7_fill_53178 [.ref a0, .int x1] cn K N I0 R0 L0 (ca_v (fun cn' K' N' I' R' L' => cn = cn' ∧ K = K' ∧ N = N' ∧ R0 = R' ∧ L0 = L' ∧ St T cn K N d wik_J7_fill_53178_8 wrk_J7_fill_53178_8 I0 R0 I' R0 ∧ (∀ j : Nat, j < 5 → I' a0 j = x1) ∧ (∀ a j, ¬ a = a0 → I' a j = I0 a j) ∧ True)) := by
  refine ConE.of (by decide +kernel) rfl (Nat.le_of_ble_eq_true rfl) rfl (fun X hX hZ hE => ?_)
  subst hX
  have hS0 : St T cn K N d wik_J7_fill_53178_8 wrk_J7_fill_53178_8 I0 R0 I0 R0 := St.rf0 hW0
  refine q_iconst dJ7_fill_53178_0 (by decide) ?_
  intro v1 h2
  refine tr_istore_n dJ7_fill_53178_1 (by decide) (by decide) ?_
  refine tr_aload_n dJ7_fill_53178_2 rfl ?_
  refine q_alen dJ7_fill_53178_3 (kR52 hS0.1 ta0) (by decide) (by decide) (nR52 hS0.1 ta0) (by decide +kernel) ?_
  intro v3 h4
  refine tr_istore_n dJ7_fill_53178_4 (by decide) (by decide) ?_
  have lp16 : ∀ (fu : Nat) (ls : Nat → Option Value) (v5 : Int32) (I10 : cz_I), ls 0 = some (.ref a0) → ls 1 = some (.int x1) → ls 2 = some (.int v5) → ls 3 = some (.int v3) → St T cn K N d wik_J7_fill_53178_8 wrk_J7_fill_53178_8 I0 R0 I10 R0 → 0 ≤ v5.toInt → v5.toInt ≤ 5 → v3.toInt = 5 → ((∀ j : Nat, (j : Int) < v5.toInt → I10 a0 j = x1) ∧ ∀ a j, ¬ a = a0 → I10 a j = I0 a j) → (-v5.toInt + 2147483647).toNat < fu → Tr X mJ7_fill_53178 5 ls [] cn K N I10 R0 L0 0 0 := by
    intro fu
    induction fu with
    | zero => intros; rename_i hz; exact absurd hz (Nat.not_lt_zero _)
    | succ fu ih16 =>
      intro ls v5 I10 hl6 hl7 hl8 hl9 hS11 g12 g13 g14 rw15 hm16
      refine tr_iload_n dJ7_fill_53178_5 hl8 ?_
      refine tr_iload_n dJ7_fill_53178_6 hl9 ?_
      refine q_icmp_ge 20 dJ7_fill_53178_7 (by decide) (fun h18 => ?_) (fun h18 => ?_)
      · skip
        exact tr_vret hZ dJ7_fill_53178_20 rfl (by decide) (by decide) ⟨rfl, rfl, rfl, rfl, rfl, rfl, hS11, (fun j hj => rw15.1 j (by omega)), rw15.2, trivial⟩
      · skip
        refine tr_aload_n dJ7_fill_53178_10 hl6 ?_
        refine tr_iload_n dJ7_fill_53178_11 hl8 ?_
        refine tr_iload_n dJ7_fill_53178_12 hl7 ?_
        refine q_iast dJ7_fill_53178_13 (kR52 hS11.1 ta0) (ti_in (nR52 hS11.1 ta0) (by omega) (by omega)) hS11 ta0 (iokF rfl) rfl (by rfl) ?_
        intro I19 hS20 e22 f21
        refine q_iincE dJ7_fill_53178_14 hl8 (by decide) (by decide) (by intros; omega) ?_
        intro v23 h24
        refine tr_goto 5 dJ7_fill_53178_17 (by decide) ?_
        exact ih16 _ v23 I19 hl6 hl7 rfl hl9 hS20 (by omega) (by omega) (by omega) ⟨fun j hj => by by_cases z : (j : Int) < v5.toInt; exact (f21 _ _ (fun q => by have y := q.2; have y2 := ti_nat (i := v5) (by omega); omega)).trans (rw15.1 j z); have y2 := ti_nat (i := v5) (by omega); obtain rfl : j = v5.toNatClampNeg := (by omega); exact e22, fun a j ha => (f21 _ _ (fun q => ha q.1)).trans (rw15.2 a j ha)⟩ (by omega)
  exact lp16 _ _ v1 I0 rfl rfl rfl rfl hS0 (by omega) (by omega) (by omega) ⟨fun j hj => by exfalso; omega, fun _ _ _ => rfl⟩ (Nat.lt_succ_self _)
def wik_X5_forget : List Nat := [2879, 2943, 3007, 3071, 3135, 3199, 3263, 3327, 3391]
def wrk_X5_forget : List Nat := []
set_option maxHeartbeats 4000000 in
theorem fk_X5_forget {l : Launch} {T : Nat → Nat} {cn : Nat} {K N : Nat → Nat} {I0 : cz_I} {R0 : cz_R} {L0 : cz_L} {d : Int} (hW0 : Wf T cn K N I0 R0 d)  {a0 : Nat} (ta0 : T a0 = 13) : ConE l mX5_forget [.ref a0] cn K N I0 R0 L0 (ca_v (fun cn' K' N' I' R' L' => cn = cn' ∧ K = K' ∧ N = N' ∧ R0 = R' ∧ L0 = L' ∧ St T cn K N d wik_X5_forget wrk_X5_forget I0 R0 I' R0 ∧ (∀ r, R0 a0 3 = some r → ∀ j : Nat, j < 240 → I' r j = 0) ∧ (∀ r, R0 a0 4 = some r → ∀ j : Nat, j < 8 → I' r j = 0) ∧ (∀ r, R0 a0 5 = some r → ∀ j : Nat, j < 8 → I' r j = 0) ∧ (∀ r, R0 a0 6 = some r → ∀ j : Nat, j < 8 → I' r j = 0) ∧ (∀ r, R0 a0 7 = some r → ∀ j : Nat, j < 8 → I' r j = 0) ∧ (∀ r, R0 a0 8 = some r → ∀ j : Nat, j < 5 → I' r j = 0) ∧ (∀ r, R0 a0 9 = some r → ∀ j : Nat, j < 5 → I' r j = 0) ∧ (∀ r, R0 a0 10 = some r → ∀ j : Nat, j < 5 → I' r j = 0) ∧ (∀ r, R0 a0 11 = some r → ∀ j : Nat, j < 5 → I' r j = 0) ∧ (FrN R0 a0 T I0 I') ∧ True)) := by
  refine ConE.of (by decide +kernel) rfl (Nat.le_of_ble_eq_true rfl) rfl (fun X hX hZ hE => ?_)
  subst hX
  have hS0 : St T cn K N d wik_X5_forget wrk_X5_forget I0 R0 I0 R0 := St.rf0 hW0
  obtain ⟨a1, d2, ta1⟩ := rf13_3 hW0 ta0
  obtain ⟨a3, d4, ta3⟩ := rf13_4 hW0 ta0
  obtain ⟨a5, d6, ta5⟩ := rf13_5 hW0 ta0
  obtain ⟨a7, d8, ta7⟩ := rf13_6 hW0 ta0
  obtain ⟨a9, d10, ta9⟩ := rf13_7 hW0 ta0
  obtain ⟨a11, d12, ta11⟩ := rf13_8 hW0 ta0
  obtain ⟨a13, d14, ta13⟩ := rf13_9 hW0 ta0
  obtain ⟨a15, d16, ta15⟩ := rf13_10 hW0 ta0
  obtain ⟨a17, d18, ta17⟩ := rf13_11 hW0 ta0
  refine tr_aload_n dX5_forget_0 rfl ?_
  refine tr_getR dX5_forget_1 fl5_9 (kR13 hS0.1 ta0) d2 ?_
  refine q_iconst dX5_forget_4 (by decide) ?_
  intro v19 h20
  refine q_callSv hE (M' := mJ7_fill_53178) (as := [_, _]) dX5_forget_5 lk5_75 inJ7_fill_53178 myJ7_fill_53178 ⟨by decide, by decide⟩ rfl (Nat.le_of_ble_eq_true rfl) rfl rfl (by decide) (by decide) (fk_J7_fill_53178 hS0.1  ta1) ?_
  rintro cn' K' N' I21 R22 L23 ⟨rfl, rfl, rfl, rfl, rfl, g24, rp27, rp28, -⟩
  have hS29 := hS0.tr g24 (by decide +kernel) (by decide +kernel)
  refine tr_aload_n dX5_forget_8 rfl ?_
  refine tr_getR dX5_forget_9 fl5_15 (kR13 hS29.1 ta0) d4 ?_
  refine q_iconst dX5_forget_12 (by decide) ?_
  intro v30 h31
  refine q_callSv hE (M' := mJ7_fill_53178) (as := [_, _]) dX5_forget_13 lk5_75 inJ7_fill_53178 myJ7_fill_53178 ⟨by decide, by decide⟩ rfl (Nat.le_of_ble_eq_true rfl) rfl rfl (by decide) (by decide) (fk_J7_fill_53178_1 hS29.1  ta3) ?_
  rintro cn' K' N' I32 R33 L34 ⟨rfl, rfl, rfl, rfl, rfl, g35, rp38, rp39, -⟩
  have hS40 := hS29.tr g35 (by decide +kernel) (by decide +kernel)
  refine tr_aload_n dX5_forget_16 rfl ?_
  refine tr_getR dX5_forget_17 fl5_18 (kR13 hS40.1 ta0) d6 ?_
  refine q_iconst dX5_forget_20 (by decide) ?_
  intro v41 h42
  refine q_callSv hE (M' := mJ7_fill_53178) (as := [_, _]) dX5_forget_21 lk5_75 inJ7_fill_53178 myJ7_fill_53178 ⟨by decide, by decide⟩ rfl (Nat.le_of_ble_eq_true rfl) rfl rfl (by decide) (by decide) (fk_J7_fill_53178_2 hS40.1  ta5) ?_
  rintro cn' K' N' I43 R44 L45 ⟨rfl, rfl, rfl, rfl, rfl, g46, rp49, rp50, -⟩
  have hS51 := hS40.tr g46 (by decide +kernel) (by decide +kernel)
  refine tr_aload_n dX5_forget_24 rfl ?_
  refine tr_getR dX5_forget_25 fl5_21 (kR13 hS51.1 ta0) d8 ?_
  refine q_iconst dX5_forget_28 (by decide) ?_
  intro v52 h53
  refine q_callSv hE (M' := mJ7_fill_53178) (as := [_, _]) dX5_forget_29 lk5_75 inJ7_fill_53178 myJ7_fill_53178 ⟨by decide, by decide⟩ rfl (Nat.le_of_ble_eq_true rfl) rfl rfl (by decide) (by decide) (fk_J7_fill_53178_3 hS51.1  ta7) ?_
  rintro cn' K' N' I54 R55 L56 ⟨rfl, rfl, rfl, rfl, rfl, g57, rp60, rp61, -⟩
  have hS62 := hS51.tr g57 (by decide +kernel) (by decide +kernel)
  refine tr_aload_n dX5_forget_32 rfl ?_
  refine tr_getR dX5_forget_33 fl5_24 (kR13 hS62.1 ta0) d10 ?_
  refine q_iconst dX5_forget_36 (by decide) ?_
  intro v63 h64
  refine q_callSv hE (M' := mJ7_fill_53178) (as := [_, _]) dX5_forget_37 lk5_75 inJ7_fill_53178 myJ7_fill_53178 ⟨by decide, by decide⟩ rfl (Nat.le_of_ble_eq_true rfl) rfl rfl (by decide) (by decide) (fk_J7_fill_53178_4 hS62.1  ta9) ?_
  rintro cn' K' N' I65 R66 L67 ⟨rfl, rfl, rfl, rfl, rfl, g68, rp71, rp72, -⟩
  have hS73 := hS62.tr g68 (by decide +kernel) (by decide +kernel)
  refine tr_aload_n dX5_forget_40 rfl ?_
  refine tr_getR dX5_forget_41 fl5_27 (kR13 hS73.1 ta0) d12 ?_
  refine q_iconst dX5_forget_44 (by decide) ?_
  intro v74 h75
  refine q_callSv hE (M' := mJ7_fill_53178) (as := [_, _]) dX5_forget_45 lk5_75 inJ7_fill_53178 myJ7_fill_53178 ⟨by decide, by decide⟩ rfl (Nat.le_of_ble_eq_true rfl) rfl rfl (by decide) (by decide) (fk_J7_fill_53178_5 hS73.1  ta11) ?_
  rintro cn' K' N' I76 R77 L78 ⟨rfl, rfl, rfl, rfl, rfl, g79, rp82, rp83, -⟩
  have hS84 := hS73.tr g79 (by decide +kernel) (by decide +kernel)
  refine tr_aload_n dX5_forget_48 rfl ?_
  refine tr_getR dX5_forget_49 fl5_30 (kR13 hS84.1 ta0) d14 ?_
  refine q_iconst dX5_forget_52 (by decide) ?_
  intro v85 h86
  refine q_callSv hE (M' := mJ7_fill_53178) (as := [_, _]) dX5_forget_53 lk5_75 inJ7_fill_53178 myJ7_fill_53178 ⟨by decide, by decide⟩ rfl (Nat.le_of_ble_eq_true rfl) rfl rfl (by decide) (by decide) (fk_J7_fill_53178_6 hS84.1  ta13) ?_
  rintro cn' K' N' I87 R88 L89 ⟨rfl, rfl, rfl, rfl, rfl, g90, rp93, rp94, -⟩
  have hS95 := hS84.tr g90 (by decide +kernel) (by decide +kernel)
  refine tr_aload_n dX5_forget_56 rfl ?_
  refine tr_getR dX5_forget_57 fl5_33 (kR13 hS95.1 ta0) d16 ?_
  refine q_iconst dX5_forget_60 (by decide) ?_
  intro v96 h97
  refine q_callSv hE (M' := mJ7_fill_53178) (as := [_, _]) dX5_forget_61 lk5_75 inJ7_fill_53178 myJ7_fill_53178 ⟨by decide, by decide⟩ rfl (Nat.le_of_ble_eq_true rfl) rfl rfl (by decide) (by decide) (fk_J7_fill_53178_7 hS95.1  ta15) ?_
  rintro cn' K' N' I98 R99 L100 ⟨rfl, rfl, rfl, rfl, rfl, g101, rp104, rp105, -⟩
  have hS106 := hS95.tr g101 (by decide +kernel) (by decide +kernel)
  refine tr_aload_n dX5_forget_64 rfl ?_
  refine tr_getR dX5_forget_65 fl5_36 (kR13 hS106.1 ta0) d18 ?_
  refine q_iconst dX5_forget_68 (by decide) ?_
  intro v107 h108
  refine q_callSv hE (M' := mJ7_fill_53178) (as := [_, _]) dX5_forget_69 lk5_75 inJ7_fill_53178 myJ7_fill_53178 ⟨by decide, by decide⟩ rfl (Nat.le_of_ble_eq_true rfl) rfl rfl (by decide) (by decide) (fk_J7_fill_53178_8 hS106.1  ta17) ?_
  rintro cn' K' N' I109 R110 L111 ⟨rfl, rfl, rfl, rfl, rfl, g112, rp115, rp116, -⟩
  have hS117 := hS106.tr g112 (by decide +kernel) (by decide +kernel)
  exact tr_vret hZ dX5_forget_72 rfl (by decide) (by decide) ⟨rfl, rfl, rfl, rfl, rfl, rfl, hS117, (fun r hr j hj => by obtain rfl := Option.some.inj (d2.symm.trans hr); exact Eq.trans (Eq.trans (rp116 a1 _ (fun z => by have y := ta1; rw [z, ta17] at y; exact absurd y (by decide))) (Eq.trans (rp105 a1 _ (fun z => by have y := ta1; rw [z, ta15] at y; exact absurd y (by decide))) (Eq.trans (rp94 a1 _ (fun z => by have y := ta1; rw [z, ta13] at y; exact absurd y (by decide))) (Eq.trans (rp83 a1 _ (fun z => by have y := ta1; rw [z, ta11] at y; exact absurd y (by decide))) (Eq.trans (rp72 a1 _ (fun z => by have y := ta1; rw [z, ta9] at y; exact absurd y (by decide))) (Eq.trans (rp61 a1 _ (fun z => by have y := ta1; rw [z, ta7] at y; exact absurd y (by decide))) (Eq.trans (rp50 a1 _ (fun z => by have y := ta1; rw [z, ta5] at y; exact absurd y (by decide))) (Eq.trans (rp39 a1 _ (fun z => by have y := ta1; rw [z, ta3] at y; exact absurd y (by decide))) (rp27 j hj))))))))) (Int32.toInt_inj.mp ((show v19.toInt = 0 by omega).trans rfl))), (fun r hr j hj => by obtain rfl := Option.some.inj (d4.symm.trans hr); exact Eq.trans (Eq.trans (rp116 a3 _ (fun z => by have y := ta3; rw [z, ta17] at y; exact absurd y (by decide))) (Eq.trans (rp105 a3 _ (fun z => by have y := ta3; rw [z, ta15] at y; exact absurd y (by decide))) (Eq.trans (rp94 a3 _ (fun z => by have y := ta3; rw [z, ta13] at y; exact absurd y (by decide))) (Eq.trans (rp83 a3 _ (fun z => by have y := ta3; rw [z, ta11] at y; exact absurd y (by decide))) (Eq.trans (rp72 a3 _ (fun z => by have y := ta3; rw [z, ta9] at y; exact absurd y (by decide))) (Eq.trans (rp61 a3 _ (fun z => by have y := ta3; rw [z, ta7] at y; exact absurd y (by decide))) (Eq.trans (rp50 a3 _ (fun z => by have y := ta3; rw [z, ta5] at y; exact absurd y (by decide))) (rp38 j hj)))))))) (Int32.toInt_inj.mp ((show v30.toInt = 0 by omega).trans rfl))), (fun r hr j hj => by obtain rfl := Option.some.inj (d6.symm.trans hr); exact Eq.trans (Eq.trans (rp116 a5 _ (fun z => by have y := ta5; rw [z, ta17] at y; exact absurd y (by decide))) (Eq.trans (rp105 a5 _ (fun z => by have y := ta5; rw [z, ta15] at y; exact absurd y (by decide))) (Eq.trans (rp94 a5 _ (fun z => by have y := ta5; rw [z, ta13] at y; exact absurd y (by decide))) (Eq.trans (rp83 a5 _ (fun z => by have y := ta5; rw [z, ta11] at y; exact absurd y (by decide))) (Eq.trans (rp72 a5 _ (fun z => by have y := ta5; rw [z, ta9] at y; exact absurd y (by decide))) (Eq.trans (rp61 a5 _ (fun z => by have y := ta5; rw [z, ta7] at y; exact absurd y (by decide))) (rp49 j hj))))))) (Int32.toInt_inj.mp ((show v41.toInt = 0 by omega).trans rfl))), (fun r hr j hj => by obtain rfl := Option.some.inj (d8.symm.trans hr); exact Eq.trans (Eq.trans (rp116 a7 _ (fun z => by have y := ta7; rw [z, ta17] at y; exact absurd y (by decide))) (Eq.trans (rp105 a7 _ (fun z => by have y := ta7; rw [z, ta15] at y; exact absurd y (by decide))) (Eq.trans (rp94 a7 _ (fun z => by have y := ta7; rw [z, ta13] at y; exact absurd y (by decide))) (Eq.trans (rp83 a7 _ (fun z => by have y := ta7; rw [z, ta11] at y; exact absurd y (by decide))) (Eq.trans (rp72 a7 _ (fun z => by have y := ta7; rw [z, ta9] at y; exact absurd y (by decide))) (rp60 j hj)))))) (Int32.toInt_inj.mp ((show v52.toInt = 0 by omega).trans rfl))), (fun r hr j hj => by obtain rfl := Option.some.inj (d10.symm.trans hr); exact Eq.trans (Eq.trans (rp116 a9 _ (fun z => by have y := ta9; rw [z, ta17] at y; exact absurd y (by decide))) (Eq.trans (rp105 a9 _ (fun z => by have y := ta9; rw [z, ta15] at y; exact absurd y (by decide))) (Eq.trans (rp94 a9 _ (fun z => by have y := ta9; rw [z, ta13] at y; exact absurd y (by decide))) (Eq.trans (rp83 a9 _ (fun z => by have y := ta9; rw [z, ta11] at y; exact absurd y (by decide))) (rp71 j hj))))) (Int32.toInt_inj.mp ((show v63.toInt = 0 by omega).trans rfl))), (fun r hr j hj => by obtain rfl := Option.some.inj (d12.symm.trans hr); exact Eq.trans (Eq.trans (rp116 a11 _ (fun z => by have y := ta11; rw [z, ta17] at y; exact absurd y (by decide))) (Eq.trans (rp105 a11 _ (fun z => by have y := ta11; rw [z, ta15] at y; exact absurd y (by decide))) (Eq.trans (rp94 a11 _ (fun z => by have y := ta11; rw [z, ta13] at y; exact absurd y (by decide))) (rp82 j hj)))) (Int32.toInt_inj.mp ((show v74.toInt = 0 by omega).trans rfl))), (fun r hr j hj => by obtain rfl := Option.some.inj (d14.symm.trans hr); exact Eq.trans (Eq.trans (rp116 a13 _ (fun z => by have y := ta13; rw [z, ta17] at y; exact absurd y (by decide))) (Eq.trans (rp105 a13 _ (fun z => by have y := ta13; rw [z, ta15] at y; exact absurd y (by decide))) (rp93 j hj))) (Int32.toInt_inj.mp ((show v85.toInt = 0 by omega).trans rfl))), (fun r hr j hj => by obtain rfl := Option.some.inj (d16.symm.trans hr); exact Eq.trans (Eq.trans (rp116 a15 _ (fun z => by have y := ta15; rw [z, ta17] at y; exact absurd y (by decide))) (rp104 j hj)) (Int32.toInt_inj.mp ((show v96.toInt = 0 by omega).trans rfl))), (fun r hr j hj => by obtain rfl := Option.some.inj (d18.symm.trans hr); exact Eq.trans (rp115 j hj) (Int32.toInt_inj.mp ((show v107.toInt = 0 by omega).trans rfl))), ((((((((((FrN.rf (R := R0) (n := a0) (T := T)).pa rp28 (s := 3) (by omega) (by omega) d2 ta1 (by decide)).pa rp39 (s := 4) (by omega) (by omega) d4 ta3 (by decide)).pa rp50 (s := 5) (by omega) (by omega) d6 ta5 (by decide)).pa rp61 (s := 6) (by omega) (by omega) d8 ta7 (by decide)).pa rp72 (s := 7) (by omega) (by omega) d10 ta9 (by decide)).pa rp83 (s := 8) (by omega) (by omega) d12 ta11 (by decide)).pa rp94 (s := 9) (by omega) (by omega) d14 ta13 (by decide)).pa rp105 (s := 10) (by omega) (by omega) d16 ta15 (by decide)).pa rp116 (s := 11) (by omega) (by omega) d18 ta17 (by decide)), trivial⟩
set_option maxHeartbeats 4000000 in
theorem fk_X5_noticedHuts {l : Launch} {T : Nat → Nat} {cn : Nat} {K N : Nat → Nat} {I0 : cz_I} {R0 : cz_R} {L0 : cz_L} {d : Int} (hW0 : Wf T cn K N I0 R0 d) (gZ : cz_N) {a0 : Nat} (ta0 : T a0 = 13) {x1 : Int32} (hx1 : 0 ≤ x1.toInt ∧ x1.toInt ≤ 4) {x2 : Int32} (hx2 : 0 ≤ x2.toInt ∧ x2.toInt ≤ 239) (hP : NgP I0 R0 a0 gZ) (hG : GdN gZ) (pre0 : x1.toInt < (nzc gZ 4)) (pre1 : x2.toInt < (nzc gZ 0)) : ConE l mX5_noticedHuts [.ref a0, .int x1, .int x2] cn K N I0 R0 L0 (ca_i (fun v cn' K' N' I' R' L' => cn = cn' ∧ K = K' ∧ N = N' ∧ I0 = I' ∧ R0 = R' ∧ L0 = L' ∧ (0 ≤ v.toInt ∧ v.toInt ≤ 15 ∧ ∀ h : Nat, (h : Int) < nzc gZ 1 → bt v.toInt (h : Int) = noZ gZ x1.toInt.toNat (h : Int) x2.toInt) ∧ True)) := by
  refine ConE.of (by decide +kernel) rfl (Nat.le_of_ble_eq_true rfl) rfl (fun X hX hZ hE => ?_)
  subst hX
  have p1 := pre0
  have p2 := pre1
  obtain ⟨a3, d4, ta3⟩ := rf13_0 hW0 ta0
  obtain ⟨a5, d6, ta5⟩ := rf13_1 hW0 ta0
  obtain ⟨a7, d8, ta7⟩ := rf2_2 hW0 ta3
  obtain ⟨a9, d10, ta9⟩ := rf2_6 hW0 ta3
  obtain ⟨a11, d12, ta11⟩ := rf2_8 hW0 ta3
  obtain ⟨a13, d14, ta13⟩ := rf2_10 hW0 ta3
  obtain ⟨a15, d16, ta15⟩ := rf2_12 hW0 ta3
  obtain ⟨a17, d18, ta17⟩ := rf12_2 hW0 ta5
  obtain ⟨a19, d20, ta19⟩ := rf12_3 hW0 ta5
  obtain ⟨a21, d22, ta21⟩ := rf12_5 hW0 ta5
  obtain ⟨a23, d24, ta23⟩ := rf12_8 hW0 ta5
  obtain ⟨a25, d26, ta25⟩ := rf12_9 hW0 ta5
  obtain ⟨a27, d28, ta27⟩ := rf12_11 hW0 ta5
  obtain ⟨a29, d30, ta29⟩ := rf13_3 hW0 ta0
  obtain ⟨a31, d32, ta31⟩ := rf13_4 hW0 ta0
  obtain ⟨a33, d34, ta33⟩ := rf13_5 hW0 ta0
  obtain ⟨a35, d36, ta35⟩ := rf13_6 hW0 ta0
  obtain ⟨a37, d38, ta37⟩ := rf13_7 hW0 ta0
  obtain ⟨a39, d40, ta39⟩ := rf13_8 hW0 ta0
  obtain ⟨a41, d42, ta41⟩ := rf13_9 hW0 ta0
  obtain ⟨a43, d44, ta43⟩ := rf13_10 hW0 ta0
  obtain ⟨a45, d46, ta45⟩ := rf13_11 hW0 ta0
  obtain ⟨v47, c48⟩ : ∃ v, I0 a3 0 = v := ⟨_, rfl⟩
  have b49 := iv2_0 hW0 ta3 c48
  obtain ⟨v50, c51⟩ : ∃ v, I0 a3 1 = v := ⟨_, rfl⟩
  have b52 := iv2_1 hW0 ta3 c51
  obtain ⟨v53, c54⟩ : ∃ v, I0 a3 5 = v := ⟨_, rfl⟩
  have b55 := iv2_5 hW0 ta3 c54
  obtain ⟨v56, c57⟩ : ∃ v, I0 a3 7 = v := ⟨_, rfl⟩
  obtain ⟨v58, c59⟩ : ∃ v, I0 a3 9 = v := ⟨_, rfl⟩
  have b60 := iv2_9 hW0 ta3 c59
  obtain ⟨v61, c62⟩ : ∃ v, I0 a3 11 = v := ⟨_, rfl⟩
  have b63 := iv2_11 hW0 ta3 c62
  obtain ⟨v64, c65⟩ : ∃ v, I0 a0 2 = v := ⟨_, rfl⟩
  have hA66 := hP _ _ d4 d6
  have hc67 := hA66.1.ct
  rw [c48, c51, c54, c59, c62, c57] at hc67
  have hc67g := hG.cs
  have hc67m := hA66.2.2
  rw [c65] at hc67m
  have hc67n := hG.ms
  refine tr_aload_n dX5_noticedHuts_0 rfl ?_
  refine tr_getR dX5_noticedHuts_1 fl5_39 (kR13 hW0 ta0) d4 ?_
  refine tr_getR dX5_noticedHuts_4 fl5_90 (kR2 hW0 ta3) d14 ?_
  refine tr_iload_n dX5_noticedHuts_7 rfl ?_
  obtain ⟨a68, d69, ta68⟩ := rf21 hW0 ta13 (j := x1.toNatClampNeg) (ti_lt (by omega) (by omega))
  refine tr_aald dX5_noticedHuts_8 (kR21 hW0 ta13) (by decide) (by decide) (ti_in (nR21 hW0 ta13) (by omega) (by omega)) d69 ?_
  obtain ⟨v71, c72⟩ : ∃ v, I0 a68 0 = v := ⟨_, rfl⟩
  obtain ⟨v73, c74⟩ : ∃ v, I0 a68 1 = v := ⟨_, rfl⟩
  obtain ⟨v75, c76⟩ : ∃ v, I0 a68 2 = v := ⟨_, rfl⟩
  obtain ⟨v77, c78⟩ : ∃ v, I0 a68 3 = v := ⟨_, rfl⟩
  obtain ⟨v79, c80⟩ : ∃ v, I0 a68 4 = v := ⟨_, rfl⟩
  obtain ⟨v81, c82⟩ : ∃ v, I0 a68 5 = v := ⟨_, rfl⟩
  have ho70 := hA66.1.tu d14 (k := x1.toInt.toNat) (by omega) (by omega) d69
  rw [c72, c74, c76, c78, c80, c82] at ho70
  have ho70g := hG.tu (t := x1.toInt.toNat) (by omega)
  refine q_getI dX5_noticedHuts_9 fl5_131 (kR4 hW0 ta68) c72 ?_
  by_cases h83 : v71.toInt = 1
  · skip
    refine tr_lookup (off := 28) 40 dX5_noticedHuts_12 (by decide +kernel) (by rw [h83]; decide +kernel) (by decide) ?_
    refine tr_aload_n dX5_noticedHuts_40 rfl ?_
    refine tr_getR dX5_noticedHuts_41 fl5_43 (kR13 hW0 ta0) d6 ?_
    refine tr_getR dX5_noticedHuts_44 fl5_115 (kR12 hW0 ta5) d24 ?_
    refine tr_iload_n dX5_noticedHuts_47 rfl ?_
    refine q_iald dX5_noticedHuts_48 (kR41 hW0 ta23) (ti_in (nR41 hW0 ta23) (by omega) (by omega)) ?_
    intro v84 c85
    exact tr_iret hZ dX5_noticedHuts_49 rfl (by decide) (by decide) ⟨v84, rfl, rfl, rfl, rfl, rfl, rfl, rfl, (by have b := hA66.2.1.2.1 _ d24 x2.toInt.toNat (by omega); rw [show I0 a23 x2.toInt.toNat = v84 from c85, show ((x2.toInt.toNat : Nat) : Int) = x2.toInt by omega] at b; exact ⟨b.1, b.2.1, fun h hh => by rw [b.2.2 h (by omega)]; unfold noZ; rw [if_neg (by omega), if_pos (by omega)]⟩), trivial⟩
  · skip
    by_cases h86 : v71.toInt = 3
    · skip
      refine tr_lookup (off := 38) 50 dX5_noticedHuts_12 (by decide +kernel) (by rw [h86]; decide +kernel) (by decide) ?_
      refine tr_aload_n dX5_noticedHuts_50 rfl ?_
      refine tr_getR dX5_noticedHuts_51 fl5_39 (kR13 hW0 ta0) d4 ?_
      refine tr_getR dX5_noticedHuts_54 fl5_158 (kR2 hW0 ta3) d12 ?_
      refine tr_iload_n dX5_noticedHuts_57 rfl ?_
      refine q_callVi hE (M' := mX4_holds) (as := [_]) dX5_noticedHuts_58 lk5_162 inX4_holds seX4_holds myX4_holds (by decide) ⟨by decide, by decide⟩ rfl (kR6 hW0 ta11) (Nat.le_of_ble_eq_true rfl) rfl rfl (by decide) (by decide) (fk_X4_holds hW0  ta11) ?_
      rintro v92 cn' K' N' I87 R88 L89 ⟨rfl, rfl, rfl, rfl, rfl, rfl, h93, rp94, -⟩
      obtain ⟨a95, d96, ta95⟩ := rf6_1 hW0 ta11
      have yh97 := alZ_of hA66.1 d12 d96 (rp94 _ d96)
      refine q_if_eq 74 dX5_noticedHuts_61 (by decide) (fun h98 => ?_) (fun h98 => ?_)
      · skip
        refine q_iconst dX5_noticedHuts_74 (by decide) ?_
        intro v99 h100
        exact tr_iret hZ dX5_noticedHuts_75 rfl (by decide) (by decide) ⟨v99, rfl, rfl, rfl, rfl, rfl, rfl, rfl, ⟨by omega, by omega, fun h hh => by rw [show v99.toInt = 0 by omega, bt_z]; unfold noZ; rw [if_pos (by omega)]; omega⟩, trivial⟩
      · skip
        refine tr_aload_n dX5_noticedHuts_64 rfl ?_
        refine tr_getR dX5_noticedHuts_65 fl5_43 (kR13 hW0 ta0) d6 ?_
        obtain ⟨v101, c102⟩ : ∃ v, I0 a5 1 = v := ⟨_, rfl⟩
        refine q_getI dX5_noticedHuts_68 fl5_168 (kR12 hW0 ta5) c102 ?_
        refine tr_goto 75 dX5_noticedHuts_71 (by decide) ?_
        exact tr_iret hZ dX5_noticedHuts_75 rfl (by decide) (by decide) ⟨v101, rfl, rfl, rfl, rfl, rfl, rfl, rfl, (by have b := hA66.2.1.2.2.2.1; rw [show I0 a5 1 = v101 from c102] at b; exact ⟨b.1, b.2.1, fun h hh => by have e : bt _ _ = (if _ then _ else _) := b.2.2 h (by omega); rw [if_pos hh] at e; unfold noZ; rw [if_pos (by omega)]; omega⟩), trivial⟩
    · skip
      refine tr_lookup (off := 64) 76 dX5_noticedHuts_12 (by decide +kernel) (by show Op.lookupswitch.offset [(1, 28), (3, 38)] 64 _ = 64; rw [Op.lookupswitch.offset_cons, if_neg (by omega), Op.lookupswitch.offset_cons, if_neg (by omega)]; rfl) (by decide) ?_
      refine tr_aload_n dX5_noticedHuts_76 rfl ?_
      refine tr_getR dX5_noticedHuts_77 fl5_43 (kR13 hW0 ta0) d6 ?_
      refine tr_getR dX5_noticedHuts_80 fl5_171 (kR12 hW0 ta5) d26 ?_
      refine tr_iload_n dX5_noticedHuts_83 rfl ?_
      refine q_iald dX5_noticedHuts_84 (kR42 hW0 ta25) (ti_in (nR42 hW0 ta25) (by omega) (by omega)) ?_
      intro v103 c104
      exact tr_iret hZ dX5_noticedHuts_85 rfl (by decide) (by decide) ⟨v103, rfl, rfl, rfl, rfl, rfl, rfl, rfl, (by have b := hA66.2.1.2.2.1 _ d26 x2.toInt.toNat (by omega); rw [show I0 a25 x2.toInt.toNat = v103 from c104, show ((x2.toInt.toNat : Nat) : Int) = x2.toInt by omega] at b; exact ⟨b.1, b.2.1, fun h hh => by rw [b.2.2 h (by omega)]; unfold noZ; rw [if_neg (by omega), if_neg (by omega)]⟩), trivial⟩
set_option maxHeartbeats 4000000 in
theorem fk_X5_isCalled {l : Launch} {T : Nat → Nat} {cn : Nat} {K N : Nat → Nat} {I0 : cz_I} {R0 : cz_R} {L0 : cz_L} {d : Int} (hW0 : Wf T cn K N I0 R0 d) (gZ : cz_N) {a0 : Nat} (ta0 : T a0 = 13) {x1 : Int32} (hx1 : 0 ≤ x1.toInt ∧ x1.toInt ≤ 4) {x2 : Int32} (hx2 : 0 ≤ x2.toInt ∧ x2.toInt ≤ 239) (hP : NgP I0 R0 a0 gZ) (hG : GdN gZ) : ConE l mX5_isCalled [.ref a0, .int x1, .int x2] cn K N I0 R0 L0 (ca_i (fun v cn' K' N' I' R' L' => cn = cn' ∧ K = K' ∧ N = N' ∧ I0 = I' ∧ R0 = R' ∧ L0 = L' ∧ (0 ≤ v.toInt ∧ v.toInt ≤ 1) ∧ (v.toInt = exI (clZ gZ x1.toInt x2.toInt) (nzc gZ 5).toNat) ∧ True)) := by
  refine ConE.of (by decide +kernel) rfl (Nat.le_of_ble_eq_true rfl) rfl (fun X hX hZ hE => ?_)
  subst hX
  obtain ⟨a1, d2, ta1⟩ := rf13_0 hW0 ta0
  obtain ⟨v3, c4⟩ : ∃ v, I0 a1 11 = v := ⟨_, rfl⟩
  have b5 := iv2_11 hW0 ta1 c4
  obtain ⟨a6, d7, ta6⟩ := rf13_1 hW0 ta0
  obtain ⟨a8, d9, ta8⟩ := rf2_2 hW0 ta1
  obtain ⟨a10, d11, ta10⟩ := rf2_6 hW0 ta1
  obtain ⟨a12, d13, ta12⟩ := rf2_8 hW0 ta1
  obtain ⟨a14, d15, ta14⟩ := rf2_10 hW0 ta1
  obtain ⟨a16, d17, ta16⟩ := rf2_12 hW0 ta1
  obtain ⟨a18, d19, ta18⟩ := rf12_2 hW0 ta6
  obtain ⟨a20, d21, ta20⟩ := rf12_3 hW0 ta6
  obtain ⟨a22, d23, ta22⟩ := rf12_5 hW0 ta6
  obtain ⟨a24, d25, ta24⟩ := rf12_8 hW0 ta6
  obtain ⟨a26, d27, ta26⟩ := rf12_9 hW0 ta6
  obtain ⟨a28, d29, ta28⟩ := rf12_11 hW0 ta6
  obtain ⟨a30, d31, ta30⟩ := rf13_3 hW0 ta0
  obtain ⟨a32, d33, ta32⟩ := rf13_4 hW0 ta0
  obtain ⟨a34, d35, ta34⟩ := rf13_5 hW0 ta0
  obtain ⟨a36, d37, ta36⟩ := rf13_6 hW0 ta0
  obtain ⟨a38, d39, ta38⟩ := rf13_7 hW0 ta0
  obtain ⟨a40, d41, ta40⟩ := rf13_8 hW0 ta0
  obtain ⟨a42, d43, ta42⟩ := rf13_9 hW0 ta0
  obtain ⟨a44, d45, ta44⟩ := rf13_10 hW0 ta0
  obtain ⟨a46, d47, ta46⟩ := rf13_11 hW0 ta0
  obtain ⟨v48, c49⟩ : ∃ v, I0 a1 0 = v := ⟨_, rfl⟩
  have b50 := iv2_0 hW0 ta1 c49
  obtain ⟨v51, c52⟩ : ∃ v, I0 a1 1 = v := ⟨_, rfl⟩
  have b53 := iv2_1 hW0 ta1 c52
  obtain ⟨v54, c55⟩ : ∃ v, I0 a1 5 = v := ⟨_, rfl⟩
  have b56 := iv2_5 hW0 ta1 c55
  obtain ⟨v57, c58⟩ : ∃ v, I0 a1 7 = v := ⟨_, rfl⟩
  obtain ⟨v59, c60⟩ : ∃ v, I0 a1 9 = v := ⟨_, rfl⟩
  have b61 := iv2_9 hW0 ta1 c60
  obtain ⟨v62, c63⟩ : ∃ v, I0 a0 2 = v := ⟨_, rfl⟩
  have hA64 := hP _ _ d2 d7
  have hc65 := hA64.1.ct
  rw [c49, c52, c55, c60, c4, c58] at hc65
  have hc65g := hG.cs
  have hc65m := hA64.2.2
  rw [c63] at hc65m
  have hc65n := hG.ms
  refine q_iconst dX5_isCalled_0 (by decide) ?_
  intro v66 h67
  refine tr_istore_n dX5_isCalled_1 (by decide) (by decide) ?_
  have lp76 : ∀ (fu : Nat) (ls : Nat → Option Value) (v68 : Int32), ls 0 = some (.ref a0) → ls 1 = some (.int x1) → ls 2 = some (.int x2) → ls 3 = some (.int v68) → 0 ≤ v68.toInt → v68.toInt ≤ v3.toInt → (exI (clZ gZ x1.toInt x2.toInt) v68.toInt.toNat = 0) → (-v68.toInt + 2147483647).toNat < fu → Tr X mX5_isCalled 2 ls [] cn K N I0 R0 L0 0 0 := by
    intro fu
    induction fu with
    | zero => intros; rename_i hz; exact absurd hz (Nat.not_lt_zero _)
    | succ fu ih76 =>
      intro ls v68 hl69 hl70 hl71 hl72 g73 g74 rw75 hm76
      refine tr_iload_n dX5_isCalled_2 hl72 ?_
      refine tr_aload_n dX5_isCalled_3 hl69 ?_
      refine tr_getR dX5_isCalled_4 fl5_39 (kR13 hW0 ta0) d2 ?_
      refine q_getI dX5_isCalled_7 fl5_141 (kR2 hW0 ta1) c4 ?_
      refine q_icmp_ge 77 dX5_isCalled_10 (by decide) (fun h78 => ?_) (fun h78 => ?_)
      · skip
        refine q_iconst dX5_isCalled_77 (by decide) ?_
        intro v79 h80
        exact tr_zret hZ dX5_isCalled_78 rfl (ti_b01 (by omega) (by omega)) (by decide) (by decide) ⟨v79, rfl, rfl, rfl, rfl, rfl, rfl, rfl, (by omega), (by rw [show (nzc gZ 5).toNat = v68.toInt.toNat from congrArg Int.toNat (by omega), rw75]; omega), trivial⟩
      · skip
        refine tr_aload_n dX5_isCalled_13 hl69 ?_
        refine tr_getR dX5_isCalled_14 fl5_39 (kR13 hW0 ta0) d2 ?_
        refine tr_getR dX5_isCalled_17 fl5_144 (kR2 hW0 ta1) d17 ?_
        refine tr_iload_n dX5_isCalled_20 hl72 ?_
        obtain ⟨a81, d82, ta81⟩ := rf22 hW0 ta16 (j := v68.toNatClampNeg) (ti_lt (by omega) (by omega))
        refine tr_aald dX5_isCalled_21 (kR22 hW0 ta16) (by decide) (by decide) (ti_in (nR22 hW0 ta16) (by omega) (by omega)) d82 ?_
        refine tr_astore dX5_isCalled_22 (by decide) (by decide) ?_
        obtain ⟨v84, c85⟩ : ∃ v, I0 a81 0 = v := ⟨_, rfl⟩
        obtain ⟨v86, c87⟩ : ∃ v, I0 a81 1 = v := ⟨_, rfl⟩
        obtain ⟨v88, c89⟩ : ∃ v, I0 a81 2 = v := ⟨_, rfl⟩
        obtain ⟨v90, c91⟩ : ∃ v, I0 a81 3 = v := ⟨_, rfl⟩
        have ho83 := hA64.1.ca d17 (k := v68.toInt.toNat) (by omega) (by omega) d82
        rw [c85, c87, c89, c91] at ho83
        have ho83g := hG.ca (k := v68.toInt.toNat) (by omega)
        refine tr_aload_n dX5_isCalled_24 hl69 ?_
        refine q_getI dX5_isCalled_25 fl5_47 (kR13 hW0 ta0) c63 ?_
        refine tr_iload_n dX5_isCalled_28 hl72 ?_
        refine q_callSNi hE (M' := mX10_bit) (as := [_, _]) dX5_isCalled_29 lk5_84 inX10_bit myX10_bit ⟨by decide, by decide⟩ rfl (Nat.le_of_ble_eq_true rfl) rfl rfl (by decide) (by decide) (f_X10_bitX   (by omega) (by omega)) ?_
        rintro v97 cn' K' N' I92 R93 L94 ⟨rfl, rfl, rfl, rfl, rfl, rfl, p98, -⟩
        have btv97 := bt_01 v62.toInt v68.toInt
        refine q_iconst dX5_isCalled_32 (by decide) ?_
        intro v99 h100
        refine q_icmp_ne 71 dX5_isCalled_33 (by decide) (fun h101 => ?_) (fun h101 => ?_)
        · skip
          refine q_iincE dX5_isCalled_71 hl72 (by decide) (by decide) (by intros; omega) ?_
          intro v102 h103
          refine tr_goto 2 dX5_isCalled_74 (by decide) ?_
          exact ih76 _ v102 hl69 hl70 hl71 rfl (by omega) (by omega) (by rw [show v102.toInt.toNat = v68.toInt.toNat + 1 by omega]; exact exI_s rw75 (clZ_n (fun z1 z2 z3 z4 => by rw [show ((v68.toInt.toNat : Nat) : Int) = v68.toInt by omega, show bt (nzM gZ) v68.toInt = v97.toInt by rw [← hc65m]; omega] at z1; omega))) (by omega)
        · skip
          refine tr_aload dX5_isCalled_36 rfl ?_
          refine q_getI dX5_isCalled_38 fl5_147 (kR5 hW0 ta81) c85 ?_
          refine tr_iload_n dX5_isCalled_41 hl70 ?_
          refine q_icmp_ne 71 dX5_isCalled_42 (by decide) (fun h104 => ?_) (fun h104 => ?_)
          · skip
            refine q_iincE dX5_isCalled_71 hl72 (by decide) (by decide) (by intros; omega) ?_
            intro v105 h106
            refine tr_goto 2 dX5_isCalled_74 (by decide) ?_
            exact ih76 _ v105 hl69 hl70 hl71 rfl (by omega) (by omega) (by rw [show v105.toInt.toNat = v68.toInt.toNat + 1 by omega]; exact exI_s rw75 (clZ_n (fun z1 z2 z3 z4 => by rw [show ((v68.toInt.toNat : Nat) : Int) = v68.toInt by omega, show bt (nzM gZ) v68.toInt = v97.toInt by rw [← hc65m]; omega] at z1; omega))) (by omega)
          · skip
            refine tr_iload_n dX5_isCalled_45 hl71 ?_
            refine tr_aload dX5_isCalled_46 rfl ?_
            refine q_getI dX5_isCalled_48 fl5_152 (kR5 hW0 ta81) c87 ?_
            refine q_icmp_lt 71 dX5_isCalled_51 (by decide) (fun h107 => ?_) (fun h107 => ?_)
            · skip
              refine q_iincE dX5_isCalled_71 hl72 (by decide) (by decide) (by intros; omega) ?_
              intro v108 h109
              refine tr_goto 2 dX5_isCalled_74 (by decide) ?_
              exact ih76 _ v108 hl69 hl70 hl71 rfl (by omega) (by omega) (by rw [show v108.toInt.toNat = v68.toInt.toNat + 1 by omega]; exact exI_s rw75 (clZ_n (fun z1 z2 z3 z4 => by rw [show ((v68.toInt.toNat : Nat) : Int) = v68.toInt by omega, show bt (nzM gZ) v68.toInt = v97.toInt by rw [← hc65m]; omega] at z1; omega))) (by omega)
            · skip
              refine tr_iload_n dX5_isCalled_54 hl71 ?_
              refine tr_aload dX5_isCalled_55 rfl ?_
              refine q_getI dX5_isCalled_57 fl5_152 (kR5 hW0 ta81) c87 ?_
              refine tr_aload dX5_isCalled_60 rfl ?_
              refine q_getI dX5_isCalled_62 fl5_155 (kR5 hW0 ta81) c89 ?_
              refine q_iaddE dX5_isCalled_65 (by intros; omega) ?_
              intro v110 h111
              refine q_icmp_ge 71 dX5_isCalled_66 (by decide) (fun h112 => ?_) (fun h112 => ?_)
              · skip
                refine q_iincE dX5_isCalled_71 hl72 (by decide) (by decide) (by intros; omega) ?_
                intro v113 h114
                refine tr_goto 2 dX5_isCalled_74 (by decide) ?_
                exact ih76 _ v113 hl69 hl70 hl71 rfl (by omega) (by omega) (by rw [show v113.toInt.toNat = v68.toInt.toNat + 1 by omega]; exact exI_s rw75 (clZ_n (fun z1 z2 z3 z4 => by rw [show ((v68.toInt.toNat : Nat) : Int) = v68.toInt by omega, show bt (nzM gZ) v68.toInt = v97.toInt by rw [← hc65m]; omega] at z1; omega))) (by omega)
              · skip
                refine q_iconst dX5_isCalled_69 (by decide) ?_
                intro v115 h116
                exact tr_zret hZ dX5_isCalled_70 rfl (ti_b01 (by omega) (by omega)) (by decide) (by decide) ⟨v115, rfl, rfl, rfl, rfl, rfl, rfl, rfl, (by omega), (by rw [exI_1 _ v68.toInt.toNat (by omega) (clZ_1 (by rw [show ((v68.toInt.toNat : Nat) : Int) = v68.toInt by omega, show bt (nzM gZ) v68.toInt = v97.toInt by rw [← hc65m]; omega]; omega) (by omega) (by omega) (by omega))]; omega), trivial⟩
  exact lp76 _ _ v66 rfl rfl rfl rfl (by omega) (by omega) (by rw [show v66.toInt.toNat = 0 by omega]; rfl) (Nat.lt_succ_self _)
