def wik_X8_build : List Nat := [768, 769, 778, 2303, 2367, 2431, 2495, 2559, 2623, 2687, 2751, 2815]
def wrk_X8_build : List Nat := []
set_option maxHeartbeats 4000000 in
theorem fk_X8_build {l : Launch} {T : Nat → Nat} {cn : Nat} {K N : Nat → Nat} {I0 : cz_I} {R0 : cz_R} {L0 : cz_L} {d : Int} (hW0 : Wf T cn K N I0 R0 d) (gX : Nat → Nat → Int) {a0 : Nat} (ta0 : T a0 = 12) {a1 : Nat} (ta1 : T a1 = 2) {a2 : Nat} (ta2 : T a2 = 8) {x3 : Int32} (hX : EvX I0 R0 a1 a2 gX) : ConE l mX8_build [.ref a0, .ref a1, .ref a2, .int x3] cn K N I0 R0 L0 (ca_v (fun cn' K' N' I' R' L' => cn = cn' ∧ K = K' ∧ N = N' ∧ R0 = R' ∧ L0 = L' ∧ St T cn K N d wik_X8_build wrk_X8_build I0 R0 I' R0 ∧ (SkF I' R0 a0 (I0 a1 0).toInt (I0 a1 1).toInt x3.toInt gX ((I0 a1 3).toInt.toNat + (I0 a2 2).toInt.toNat) (I0 a1 0).toInt) ∧ (FrS R0 a0 T I0 I') ∧ True)) := by
  refine ConE.of (by decide +kernel) rfl (Nat.le_of_ble_eq_true rfl) rfl (fun X hX hZ hE => ?_)
  subst hX
  have hS0 : St T cn K N d wik_X8_build wrk_X8_build I0 R0 I0 R0 := St.rf0 hW0
  obtain ⟨a11, d12, ta11⟩ := rf12_2 hW0 ta0
  obtain ⟨a13, d14, ta13⟩ := rf12_3 hW0 ta0
  obtain ⟨a15, d16, ta15⟩ := rf12_4 hW0 ta0
  obtain ⟨a17, d18, ta17⟩ := rf12_5 hW0 ta0
  obtain ⟨a19, d20, ta19⟩ := rf12_6 hW0 ta0
  obtain ⟨a21, d22, ta21⟩ := rf12_7 hW0 ta0
  obtain ⟨a23, d24, ta23⟩ := rf12_8 hW0 ta0
  obtain ⟨a25, d26, ta25⟩ := rf12_9 hW0 ta0
  obtain ⟨a27, d28, ta27⟩ := rf12_11 hW0 ta0
  obtain ⟨v29, c30⟩ : ∃ v, I0 a1 0 = v := ⟨_, rfl⟩
  have b31 := iv2_0 hW0 ta1 c30
  obtain ⟨v32, c33⟩ : ∃ v, I0 a1 1 = v := ⟨_, rfl⟩
  have b34 := iv2_1 hW0 ta1 c33
  obtain ⟨v35, c36⟩ : ∃ v, I0 a1 3 = v := ⟨_, rfl⟩
  have b37 := iv2_3 hW0 ta1 c36
  obtain ⟨v38, c39⟩ : ∃ v, I0 a2 2 = v := ⟨_, rfl⟩
  have b40 := iv8_2 hW0 ta2 c39
  obtain ⟨a41, d42, ta41⟩ := rf2_4 hW0 ta1
  obtain ⟨a43, d44, ta43⟩ := rf8_3 hW0 ta2
  obtain ⟨a45, d46, ta45⟩ := rf8_4 hW0 ta2
  refine tr_aload_n dX8_build_0 rfl ?_
  refine tr_aload_n dX8_build_1 rfl ?_
  refine q_getI dX8_build_2 fl8_40 (kR2 hS0.1 ta1) c30 ?_
  refine q_putI dX8_build_5 fl8_46 (kR12 hS0.1 ta0) (Or.inl rfl) hS0 ta0 (by show (0 : Int) ≤ v29.toInt ∧ v29.toInt ≤ (240 : Int); omega) rfl (by decide +kernel) ?_
  intro I47 hS48 e49 f50
  refine tr_aload_n dX8_build_8 rfl ?_
  refine q_iconst dX8_build_9 (by decide) ?_
  intro v51 h52
  refine tr_aload_n dX8_build_10 rfl ?_
  refine q_getI dX8_build_11 fl8_47 (kR2 hS48.1 ta1) ((hS48.cell ta1 (by decide +kernel)).trans c33) ?_
  refine tr_ishl dX8_build_14 ?_
  obtain ⟨v53, lx54⟩ : ∃ z, z = v51 <<< (v32 &&& 31) := ⟨_, rfl⟩
  rw [← lx54]
  refine q_iconst dX8_build_15 (by decide) ?_
  intro v55 h56
  refine tr_isub dX8_build_16 ?_
  obtain ⟨v57, lx58⟩ : ∃ z, z = v53 - v55 := ⟨_, rfl⟩
  rw [← lx58]
  refine q_putI dX8_build_17 fl8_50 (kR12 hS48.1 ta0) (Or.inl rfl) hS48 ta0 (iokF rfl) rfl (by decide +kernel) ?_
  intro I59 hS60 e61 f62
  have c63 : I59 a0 0 = v29 := (f62 _ _ (fun q => absurd q.2 (by decide))).trans e49
  refine tr_aload_n dX8_build_20 rfl ?_
  refine q_callVv hE (M' := mX8_wipe) (as := []) dX8_build_21 lk8_53 inX8_wipe seX8_wipe myX8_wipe (by decide) ⟨by decide, by decide⟩ rfl (kR12 hS60.1 ta0) (Nat.le_of_ble_eq_true rfl) rfl rfl (by decide) (by decide) (fk_X8_wipe hS60.1  ta0) ?_
  rintro cn' K' N' I64 R65 L66 ⟨rfl, rfl, rfl, rfl, rfl, g67, rp70, rp71, -⟩
  have hS72 := hS60.tr g67 (by decide +kernel) (by decide +kernel)
  have c73 : I64 a0 0 = v29 := (g67.cell ta0 (by decide +kernel)).trans c63
  have c74 : I64 a0 1 = v57 := (g67.cell ta0 (by decide +kernel)).trans e61
  refine q_iconst dX8_build_24 (by decide) ?_
  intro v75 h76
  refine tr_istore dX8_build_25 (by decide) (by decide) ?_
  have lp93 : ∀ (fu : Nat) (ls : Nat → Option Value) (v77 : Int32) (I83 : cz_I) (v85 : Int32), ls 0 = some (.ref a0) → ls 1 = some (.ref a1) → ls 2 = some (.ref a2) → ls 3 = some (.int x3) → ls 4 = some (.int v77) → St T cn K N d wik_X8_build wrk_X8_build I0 R0 I83 R0 → I83 a0 0 = v85 → 0 ≤ v77.toInt → v77.toInt ≤ v35.toInt → (SkR I83 R0 a0 v29.toInt x3.toInt gX (v77.toInt.toNat)) → (Bts (I83 a0 1) (fun j => if (j : Int) < v32.toInt then 1 else 0)) → (FrS R0 a0 T I0 I83) → (v85.toInt = v29.toInt) → (-v77.toInt + 2147483647).toNat < fu → Tr X mX8_build 27 ls [] cn K N I83 R0 L0 0 0 := by
    intro fu
    induction fu with
    | zero => intros; rename_i hz; exact absurd hz (Nat.not_lt_zero _)
    | succ fu ih93 =>
      intro ls v77 I83 v85 hl78 hl79 hl80 hl81 hl82 hS84 c86 g87 g88 rw89 rw90 rw91 rw92 hm93
      have b95 := iv12_0 hS84.1 ta0 c86
      refine tr_iload dX8_build_27 hl82 ?_
      refine tr_aload_n dX8_build_29 hl79 ?_
      refine q_getI dX8_build_30 fl8_56 (kR2 hS84.1 ta1) ((hS84.cell ta1 (by decide +kernel)).trans c36) ?_
      refine q_icmp_ge 59 dX8_build_33 (by decide) (fun h96 => ?_) (fun h96 => ?_)
      · skip
        refine q_iconst dX8_build_59 (by decide) ?_
        intro v97 h98
        refine tr_istore dX8_build_60 (by decide) (by decide) ?_
        have lp115 : ∀ (fu : Nat) (ls : Nat → Option Value) (v99 : Int32) (I105 : cz_I) (v107 : Int32), ls 0 = some (.ref a0) → ls 1 = some (.ref a1) → ls 2 = some (.ref a2) → ls 3 = some (.int x3) → ls 4 = some (.int v99) → St T cn K N d wik_X8_build wrk_X8_build I0 R0 I105 R0 → I105 a0 0 = v107 → 0 ≤ v99.toInt → v99.toInt ≤ v38.toInt → (SkR I105 R0 a0 v29.toInt x3.toInt gX (v35.toInt.toNat + v99.toInt.toNat)) → (Bts (I105 a0 1) (fun j => if (j : Int) < v32.toInt then 1 else 0)) → (FrS R0 a0 T I0 I105) → (v107.toInt = v29.toInt) → (-v99.toInt + 2147483647).toNat < fu → Tr X mX8_build 62 ls [] cn K N I105 R0 L0 0 0 := by
          intro fu
          induction fu with
          | zero => intros; rename_i hz; exact absurd hz (Nat.not_lt_zero _)
          | succ fu ih115 =>
            intro ls v99 I105 v107 hl100 hl101 hl102 hl103 hl104 hS106 c108 g109 g110 rw111 rw112 rw113 rw114 hm115
            have b117 := iv12_0 hS106.1 ta0 c108
            refine tr_iload dX8_build_62 hl104 ?_
            refine tr_aload_n dX8_build_64 hl102 ?_
            refine q_getI dX8_build_65 fl8_67 (kR8 hS106.1 ta2) ((hS106.cell ta2 (by decide +kernel)).trans c39) ?_
            refine q_icmp_ge 106 dX8_build_68 (by decide) (fun h118 => ?_) (fun h118 => ?_)
            · skip
              refine tr_aload_n dX8_build_106 hl100 ?_
              refine q_callVv hE (M' := mX8_findLight) (as := []) dX8_build_107 lk8_82 inX8_findLight seX8_findLight myX8_findLight (by decide) ⟨by decide, by decide⟩ rfl (kR12 hS106.1 ta0) (Nat.le_of_ble_eq_true rfl) rfl rfl (by decide) (by decide) (fk_X8_findLight hS106.1 (gX) (v35.toInt.toNat + v38.toInt.toNat) (x3.toInt) (v32.toInt) ta0 (by have z := rw111; rw [show v99.toInt.toNat = v38.toInt.toNat by omega, show v29.toInt = v107.toInt by omega] at z; rw [c108]; exact z) rw112) ?_
              rintro cn' K' N' I119 R120 L121 ⟨rfl, rfl, rfl, rfl, rfl, g122, rp125, rp126, -⟩
              have hS127 := hS106.tr g122 (by decide +kernel) (by decide +kernel)
              have c128 : I119 a0 0 = v107 := (g122.cell ta0 (by decide +kernel)).trans c108
              refine tr_aload_n dX8_build_110 hl100 ?_
              refine tr_aload_n dX8_build_111 hl101 ?_
              obtain ⟨a129, d130, ta129⟩ := rf2_8 hW0 ta1
              refine tr_getR dX8_build_112 fl8_85 (kR2 hS127.1 ta1) d130 ?_
              refine q_callVv hE (M' := mX8_findStirs) (as := [_]) dX8_build_115 lk8_89 inX8_findStirs seX8_findStirs myX8_findStirs (by decide) ⟨by decide, by decide⟩ rfl (kR12 hS127.1 ta0) (Nat.le_of_ble_eq_true rfl) rfl rfl (by decide) (by decide) (fk_X8_findStirs hS127.1  ta0 ta129) ?_
              rintro cn' K' N' I131 R132 L133 ⟨rfl, rfl, rfl, rfl, rfl, g134, rp137, -⟩
              have hS138 := hS127.tr g134 (by decide +kernel) (by decide +kernel)
              have c139 : I131 a0 0 = v107 := (g134.cell ta0 (by decide +kernel)).trans c128
              exact tr_vret hZ dX8_build_118 rfl (by decide) (by decide) ⟨rfl, rfl, rfl, rfl, rfl, rfl, hS138, (by rw [c30, c33, c36, c39]; have z := SkF.kp rp125 (fun r m k h2 h9 hr => by have hk : k = 2 ∨ k = 3 ∨ k = 4 ∨ k = 5 ∨ k = 6 ∨ k = 7 ∨ k = 8 ∨ k = 9 := (by omega); rcases hk with rfl | rfl | rfl | rfl | rfl | rfl | rfl | rfl; exact g134.cell (hS106.1.rs ta0 rfl rfl hr : T r = 35) (wm_no (by decide +kernel)); exact g134.cell (hS106.1.rs ta0 rfl rfl hr : T r = 36) (wm_no (by decide +kernel)); exact g134.cell (hS106.1.rs ta0 rfl rfl hr : T r = 37) (wm_no (by decide +kernel)); exact g134.cell (hS106.1.rs ta0 rfl rfl hr : T r = 38) (wm_no (by decide +kernel)); exact g134.cell (hS106.1.rs ta0 rfl rfl hr : T r = 39) (wm_no (by decide +kernel)); exact g134.cell (hS106.1.rs ta0 rfl rfl hr : T r = 40) (wm_no (by decide +kernel)); exact g134.cell (hS106.1.rs ta0 rfl rfl hr : T r = 41) (wm_no (by decide +kernel)); exact g134.cell (hS106.1.rs ta0 rfl rfl hr : T r = 42) (wm_no (by decide +kernel))); rw [c108, show v107.toInt = v29.toInt by omega] at z; exact z), ((rw113.tr rp126).tr rp137), trivial⟩
            · skip
              refine tr_aload_n dX8_build_71 hl101 ?_
              refine q_getI dX8_build_72 fl8_56 (kR2 hS106.1 ta1) ((hS106.cell ta1 (by decide +kernel)).trans c36) ?_
              refine tr_iload dX8_build_75 hl104 ?_
              refine q_iaddE dX8_build_77 (by intros; omega) ?_
              intro v140 h141
              refine tr_iload_n dX8_build_78 hl103 ?_
              refine q_icmp_eq 100 dX8_build_79 (by decide) (fun h142 => ?_) (fun h142 => ?_)
              · skip
                refine q_iincE dX8_build_100 hl104 (by decide) (by decide) (by intros; omega) ?_
                intro v143 h144
                refine tr_goto 62 dX8_build_103 (by decide) ?_
                exact ih115 _ v143 I105 v107 hl100 hl101 hl102 hl103 rfl hS106 c108 (by omega) (by omega) (by rw [show v35.toInt.toNat + v143.toInt.toNat = v35.toInt.toNat + v99.toInt.toNat + 1 by omega]; exact SkR.skip rw111 (by omega)) (by rw [show (0 : Int) = 0 from rfl]; exact rw112) rw113 (by omega) (by omega)
              · skip
                refine tr_aload_n dX8_build_82 hl100 ?_
                refine tr_aload_n dX8_build_83 hl102 ?_
                refine tr_getR dX8_build_84 fl8_72 (kR8 hS106.1 ta2) d44 ?_
                refine tr_iload dX8_build_87 hl104 ?_
                refine q_iald dX8_build_89 (kR27 hS106.1 ta43) (ti_in (nR27 hS106.1 ta43) (by omega) (by omega)) ?_
                intro v145 c146
                have b147 := iv27 hS106.1 ta43 c146
                refine tr_aload_n dX8_build_90 hl102 ?_
                refine tr_getR dX8_build_91 fl8_75 (kR8 hS106.1 ta2) d46 ?_
                refine tr_iload dX8_build_94 hl104 ?_
                refine q_iald dX8_build_96 (kR28 hS106.1 ta45) (ti_in (nR28 hS106.1 ta45) (by omega) (by omega)) ?_
                intro v148 c149
                have b150 := iv28 hS106.1 ta45 c149
                refine q_callVv hE (M' := mX8_layCloud) (as := [_, _]) dX8_build_97 lk8_78 inX8_layCloud seX8_layCloud myX8_layCloud (by decide) ⟨by decide, by decide⟩ rfl (kR12 hS106.1 ta0) (Nat.le_of_ble_eq_true rfl) rfl rfl (by decide) (by decide) (fk_X8_layCloud hS106.1  ta0 (by omega) (by omega)) ?_
                rintro cn' K' N' I151 R152 L153 ⟨rfl, rfl, rfl, rfl, rfl, g154, rp157, rp158, -⟩
                have hS159 := hS106.tr g154 (by decide +kernel) (by decide +kernel)
                have c160 : I151 a0 0 = v107 := (g154.cell ta0 (by decide +kernel)).trans c108
                refine q_iincE dX8_build_100 hl104 (by decide) (by decide) (by intros; omega) ?_
                intro v161 h162
                refine tr_goto 62 dX8_build_103 (by decide) ?_
                exact ih115 _ v161 I151 v107 hl100 hl101 hl102 hl103 rfl hS159 c160 (by omega) (by omega) (by have hx := (hX.2 _ _ v99.toInt.toNat d44 d46 (by rw [c39]; omega)); rw [c36, (show (I0 a43 v99.toInt.toNat) = v145 from (hS106.cell ta43 (wm_no (by decide +kernel))).symm.trans c146), (show (I0 a45 v99.toInt.toNat) = v148 from (hS106.cell ta45 (wm_no (by decide +kernel))).symm.trans c149)] at hx; rw [show v35.toInt.toNat + v161.toInt.toNat = v35.toInt.toNat + v99.toInt.toNat + 1 by omega]; exact SkR.lay (kd := 0) (fr := v145.toInt) (to := v148.toInt) (hut := 0) rw111 (by omega) hx.1 hx.2.1 hx.2.2 (fun w => by exfalso; omega) (fun r hr => LyI.z (fun m => (g154.cell (hS106.1.rs ta0 rfl rfl hr : T r = 35) (wm_no (by decide +kernel)))) (by split <;> omega)) (fun r hr => LyI.z (fun m => (g154.cell (hS106.1.rs ta0 rfl rfl hr : T r = 36) (wm_no (by decide +kernel)))) (by split <;> omega)) (fun r hr => by rw [if_pos rfl]; exact rp157 _ hr) (fun r hr => LyB.z (fun m => (g154.cell (hS106.1.rs ta0 rfl rfl hr : T r = 38) (wm_no (by decide +kernel)))) (by split <;> omega)) (fun r hr => LyB.z (fun m => (g154.cell (hS106.1.rs ta0 rfl rfl hr : T r = 40) (wm_no (by decide +kernel)))) (by split <;> omega))) (by rw [show I151 a0 1 = _ from (g154.cell ta0 (wm_no (by decide +kernel)))]; exact rw112) (rw113.tr rp158) (by omega) (by omega)
        exact lp115 _ _ v97 I83 v85 hl78 hl79 hl80 hl81 rfl hS84 c86 (by omega) (by omega) (by have z := rw89; rw [show v77.toInt.toNat = v35.toInt.toNat + v97.toInt.toNat by omega] at z; exact z) (by rw [show (0 : Int) = 0 from rfl]; exact rw90) rw91 (by omega) (Nat.lt_succ_self _)
      · skip
        refine tr_iload dX8_build_36 hl82 ?_
        refine tr_iload_n dX8_build_38 hl81 ?_
        refine q_icmp_eq 53 dX8_build_39 (by decide) (fun h163 => ?_) (fun h163 => ?_)
        · skip
          refine q_iincE dX8_build_53 hl82 (by decide) (by decide) (by intros; omega) ?_
          intro v164 h165
          refine tr_goto 27 dX8_build_56 (by decide) ?_
          exact ih93 _ v164 I83 v85 hl78 hl79 hl80 hl81 rfl hS84 c86 (by omega) (by omega) (by rw [show v164.toInt.toNat = v77.toInt.toNat + 1 by omega]; exact SkR.skip rw89 (by omega)) (by rw [show (0 : Int) = 0 from rfl]; exact rw90) rw91 (by omega) (by omega)
        · skip
          refine tr_aload_n dX8_build_42 hl78 ?_
          refine tr_aload_n dX8_build_43 hl79 ?_
          refine tr_getR dX8_build_44 fl8_59 (kR2 hS84.1 ta1) d42 ?_
          refine tr_iload dX8_build_47 hl82 ?_
          obtain ⟨a166, d167, ta166⟩ := rf19 hS84.1 ta41 (j := v77.toNatClampNeg) (ti_lt (by omega) (by omega))
          refine tr_aald dX8_build_49 (kR19 hS84.1 ta41) (by decide) (by decide) (ti_in (nR19 hS84.1 ta41) (by omega) (by omega)) d167 ?_
          obtain ⟨v168, c169⟩ : ∃ v, I0 a166 0 = v := ⟨_, rfl⟩
          obtain ⟨v171, c172⟩ : ∃ v, I0 a166 1 = v := ⟨_, rfl⟩
          obtain ⟨v173, c174⟩ : ∃ v, I0 a166 2 = v := ⟨_, rfl⟩
          have b175 := iv3_2 hW0 ta166 c174
          obtain ⟨v176, c177⟩ : ∃ v, I0 a166 3 = v := ⟨_, rfl⟩
          have b178 := iv3_3 hW0 ta166 c177
          have hq170 := hX.1 _ d42 v77.toInt.toNat _ (by rw [c36]; omega) d167
          have hq170k : 0 ≤ v168.toInt ∧ v168.toInt ≤ 4 := by obtain ⟨q0, -, -, -, q4, q5, -⟩ := hq170; rw [c169] at q0; omega
          refine q_callVv hE (M' := mX8_layEvent) (as := [_]) dX8_build_50 lk8_63 inX8_layEvent seX8_layEvent myX8_layEvent (by decide) ⟨by decide, by decide⟩ rfl (kR12 hS84.1 ta0) (Nat.le_of_ble_eq_true rfl) rfl rfl (by decide) (by decide) (fk_X8_layEvent hS84.1  ta0 ta166 (by (try rw [((hS84.cell ta166 (by decide +kernel)).trans c169)]); first | done | with_reducible assumption | omega) (by (try rw [((hS84.cell ta166 (by decide +kernel)).trans c169)]); first | done | with_reducible assumption | omega)) ?_
          rintro cn' K' N' I179 R180 L181 ⟨rfl, rfl, rfl, rfl, rfl, g182, rp185, rp186, rp187, rp188, rp189, rp190, -⟩
          have hS191 := hS84.tr g182 (by decide +kernel) (by decide +kernel)
          have c192 : I179 a0 0 = v85 := (g182.cell ta0 (by decide +kernel)).trans c86
          refine q_iincE dX8_build_53 hl82 (by decide) (by decide) (by have z0 := x3.toInt_lt; have y0 := x3.le_toInt; intros; omega) ?_
          intro v193 h194
          refine tr_goto 27 dX8_build_56 (by decide) ?_
          exact ih93 _ v193 I179 v85 hl78 hl79 hl80 hl81 rfl hS191 c192 (by omega) (by omega) (by rw [show v193.toInt.toNat = v77.toInt.toNat + 1 by omega]; exact SkR.lay rw89 (by omega) (by rw [(hS84.cell ta166 (by decide +kernel))]; exact (hq170.1).symm) (by rw [(hS84.cell ta166 (by decide +kernel))]; exact (hq170.2.2.1).symm) (by rw [(hS84.cell ta166 (by decide +kernel))]; exact (hq170.2.2.2.1).symm) (fun w => by rw [(hS84.cell ta166 (by decide +kernel))] at w; rw [(hS84.cell ta166 (by decide +kernel))]; obtain ⟨q0, q1, -, -, -, -, q6⟩ := hq170; have y := q6 (by omega); omega) rp185 rp186 rp187 rp188 rp189) (by rw [show I179 a0 1 = _ from (g182.cell ta0 (wm_no (by decide +kernel)))]; exact rw90) (rw91.tr rp190) (by omega) (by omega)
  exact lp93 _ _ v75 I64 v29 rfl rfl rfl rfl rfl hS72 c73 (by omega) (by omega) (by rw [show v75.toInt.toNat = 0 by omega]; exact SkR.z (fun r m h hm => rp70 r m h (by rw [c63]; omega))) (by rw [c74, lx58, lx54]; exact Bts.all (by omega) (by omega) (by omega) (by omega)) ((((FrS.rf (R := R0) (sk := a0) (T := T)).po f50 rfl ta0).po f62 rfl ta0).tr rp71) (by omega) (Nat.lt_succ_self _)
def wik_X10_presentSky : List Nat := [73, 768, 769, 778, 2303, 2367, 2431, 2495, 2559, 2623, 2687, 2751, 2815]
def wrk_X10_presentSky : List Nat := []
set_option maxHeartbeats 4000000 in
theorem fk_X10_presentSky {l : Launch} {T : Nat → Nat} {cn : Nat} {K N : Nat → Nat} {I0 : cz_I} {R0 : cz_R} {L0 : cz_L} {d : Int} (hW0 : Wf T cn K N I0 R0 d) (gX : Nat → Nat → Int) {a0 : Nat} (ta0 : T a0 = 1) (hX : EvQ I0 R0 a0 gX) (hK : SkQ I0 R0 a0 gX) (hD : DjS R0 a0) : ConE l mX10_presentSky [.ref a0] cn K N I0 R0 L0 (ca_r (fun v cn' K' N' I' R' L' => cn = cn' ∧ K = K' ∧ N = N' ∧ R0 = R' ∧ L0 = L' ∧ St T cn K N d wik_X10_presentSky wrk_X10_presentSky I0 R0 I' R0 ∧ T v = 12 ∧ ((I' a0 9).toInt = 1) ∧ (R0 a0 8 = some v) ∧ (SkW I' R0 a0 gX) ∧ (SkX I0 I' R0 a0 gX) ∧ True)) := by
  refine ConE.of (by decide +kernel) rfl (Nat.le_of_ble_eq_true rfl) rfl (fun X hX hZ hE => ?_)
  subst hX
  have hS0 : St T cn K N d wik_X10_presentSky wrk_X10_presentSky I0 R0 I0 R0 := St.rf0 hW0
  obtain ⟨a1, d2, ta1⟩ := rf1_2 hW0 ta0
  obtain ⟨a3, d4, ta3⟩ := rf1_6 hW0 ta0
  obtain ⟨a5, d6, ta5⟩ := rf1_8 hW0 ta0
  obtain ⟨a7, d8, ta7⟩ := rf1_13 hW0 ta0
  obtain ⟨v9, c10⟩ : ∃ v, I0 a0 9 = v := ⟨_, rfl⟩
  have b11 := iv1_9 hS0.1 ta0 c10
  refine tr_aload_n dX10_presentSky_0 rfl ?_
  refine q_getZ dX10_presentSky_1 fl10_358 (kR1 hS0.1 ta0) c10 ?_
  refine q_if_ne 28 dX10_presentSky_4 (by decide) (fun h12 => ?_) (fun h12 => ?_)
  · skip
    refine tr_aload_n dX10_presentSky_28 rfl ?_
    refine tr_getR dX10_presentSky_29 fl10_49 (kR1 hS0.1 ta0) d6 ?_
    exact tr_aret hZ dX10_presentSky_32 rfl (by decide) (by decide) ⟨a5, rfl, rfl, rfl, rfl, rfl, rfl, hS0, ta5, (by (try rw [c10]); first | done | with_reducible assumption | omega), d6, (hK (by rw [c10]; omega)), (hK (by rw [c10]; omega)), trivial⟩
  · skip
    refine tr_aload_n dX10_presentSky_7 rfl ?_
    refine tr_getR dX10_presentSky_8 fl10_49 (kR1 hS0.1 ta0) d6 ?_
    refine tr_aload_n dX10_presentSky_11 rfl ?_
    refine tr_getR dX10_presentSky_12 fl10_16 (kR1 hS0.1 ta0) d2 ?_
    refine tr_aload_n dX10_presentSky_15 rfl ?_
    refine tr_getR dX10_presentSky_16 fl10_35 (kR1 hS0.1 ta0) d4 ?_
    refine q_iconst dX10_presentSky_19 (by decide) ?_
    intro v13 h14
    refine q_callVv hE (M' := mX8_build) (as := [_, _, _]) dX10_presentSky_20 lk10_237 inX8_build seX8_build myX8_build (by decide) ⟨by decide, by decide⟩ rfl (kR12 hS0.1 ta5) (Nat.le_of_ble_eq_true rfl) rfl rfl (by decide) (by decide) (fk_X8_build hS0.1 (gX) ta5 ta1 ta3 (hX _ _ d2 d4)) ?_
    rintro cn' K' N' I15 R16 L17 ⟨rfl, rfl, rfl, rfl, rfl, g18, rp21, rp22, -⟩
    have hS23 := hS0.tr g18 (by decide +kernel) (by decide +kernel)
    have c24 : I15 a0 9 = v9 := (g18.cell ta0 (by decide +kernel)).trans c10
    refine tr_aload_n dX10_presentSky_23 rfl ?_
    refine q_iconst dX10_presentSky_24 (by decide) ?_
    intro v25 h26
    refine q_putZ dX10_presentSky_25 fl10_358 (kR1 hS23.1 ta0) (Or.inl rfl) hS23 ta0 (by omega) (by show (0 : Int) ≤ v25.toInt ∧ v25.toInt ≤ (1 : Int); omega) rfl (by decide +kernel) ?_
    intro I27 hS28 e29 f30
    refine tr_aload_n dX10_presentSky_28 rfl ?_
    refine tr_getR dX10_presentSky_29 fl10_49 (kR1 hS28.1 ta0) d6 ?_
    exact tr_aret hZ dX10_presentSky_32 rfl (by decide) (by decide) ⟨a5, rfl, rfl, rfl, rfl, rfl, rfl, hS28, ta5, (by (try rw [e29]); first | done | with_reducible assumption | omega), d6, (SkW.put (SkW.bld hW0 ta0 g18 (by decide +kernel) d6 d2 d4 (by omega) rp21) hW0 ta0 f30 ta0 (by decide)), (SkX.bld hW0 ta0 d6 d2 d4 (by omega) rp21 f30 ta0 (by decide)), trivial⟩
def wik_X10_presentNight : List Nat := [73, 75, 768, 769, 778, 834, 2303, 2367, 2431, 2495, 2559, 2623, 2687, 2751, 2815, 2879, 2943, 3007, 3071, 3135, 3199, 3263, 3327, 3391]
def wrk_X10_presentNight : List Nat := [832, 833]
set_option maxHeartbeats 4000000 in
theorem fk_X10_presentNight {l : Launch} {T : Nat → Nat} {cn : Nat} {K N : Nat → Nat} {I0 : cz_I} {R0 : cz_R} {L0 : cz_L} {d : Int} (hW0 : Wf T cn K N I0 R0 d) (gX : Nat → Nat → Int) {a0 : Nat} (ta0 : T a0 = 1) (hX : EvQ I0 R0 a0 gX) (hK : SkQ I0 R0 a0 gX) (hD : DjS R0 a0) : ConE l mX10_presentNight [.ref a0] cn K N I0 R0 L0 (ca_r (fun v cn' K' N' I' R' L' => cn = cn' ∧ K = K' ∧ N = N' ∧ L0 = L' ∧ St T cn K N d wik_X10_presentNight wrk_X10_presentNight I0 R0 I' R' ∧ T v = 13 ∧ (SkQ I' R0 a0 gX) ∧ True)) := by
  refine ConE.of (by decide +kernel) rfl (Nat.le_of_ble_eq_true rfl) rfl (fun X hX hZ hE => ?_)
  subst hX
  have hS0 : St T cn K N d wik_X10_presentNight wrk_X10_presentNight I0 R0 I0 R0 := St.rf0 hW0
  obtain ⟨a1, d2, ta1⟩ := rf1_2 hW0 ta0
  obtain ⟨a3, d4, ta3⟩ := rf1_6 hW0 ta0
  obtain ⟨a5, d6, ta5⟩ := rf1_8 hW0 ta0
  obtain ⟨a7, d8, ta7⟩ := rf1_13 hW0 ta0
  refine tr_aload_n dX10_presentNight_0 rfl ?_
  obtain ⟨v9, c10⟩ : ∃ v, I0 a0 11 = v := ⟨_, rfl⟩
  have b11 := iv1_11 hS0.1 ta0 c10
  refine q_getZ dX10_presentNight_1 fl10_288 (kR1 hS0.1 ta0) c10 ?_
  refine q_if_ne 38 dX10_presentNight_4 (by decide) (fun h12 => ?_) (fun h12 => ?_)
  · skip
    refine tr_aload_n dX10_presentNight_38 rfl ?_
    obtain ⟨a13, d14, ta13⟩ := rf1_10 hW0 ta0
    refine tr_getR dX10_presentNight_39 fl10_58 (kR1 hS0.1 ta0) d14 ?_
    exact tr_aret hZ dX10_presentNight_42 rfl (by decide) (by decide) ⟨a13, rfl, rfl, rfl, rfl, rfl, hS0, ta13, hK, trivial⟩
  · skip
    refine tr_aload_n dX10_presentNight_7 rfl ?_
    obtain ⟨a15, d16, ta15⟩ := rf1_10 hW0 ta0
    refine tr_getR dX10_presentNight_8 fl10_58 (kR1 hS0.1 ta0) d16 ?_
    refine tr_aload_n dX10_presentNight_11 rfl ?_
    refine tr_getR dX10_presentNight_12 fl10_16 (kR1 hS0.1 ta0) d2 ?_
    refine tr_aload_n dX10_presentNight_15 rfl ?_
    refine q_callVr hE (M' := mX10_presentSky) (as := []) dX10_presentNight_16 lk10_119 inX10_presentSky seX10_presentSky myX10_presentSky (by decide) ⟨by decide, by decide⟩ rfl (kR1 hS0.1 ta0) (Nat.le_of_ble_eq_true rfl) rfl rfl (by decide) (by decide) (fk_X10_presentSky hS0.1 (gX) ta0 hX hK hD) ?_
    rintro a22 cn' K' N' I17 R18 L19 ⟨rfl, rfl, rfl, rfl, rfl, g20, ta22, p23, rp24, rp25, rp26, -⟩
    have hS27 := hS0.tr g20 (by decide +kernel) (by decide +kernel)
    have c28 : I17 a0 11 = v9 := (g20.cell ta0 (by decide +kernel)).trans c10
    obtain ⟨v29, c30⟩ : ∃ v, I17 a0 9 = v := ⟨_, rfl⟩
    have b31 := iv1_9 hS27.1 ta0 c30
    rw [c30] at p23
    refine tr_aload_n dX10_presentNight_19 rfl ?_
    refine tr_getR dX10_presentNight_20 fl10_35 (kR1 hS27.1 ta0) d4 ?_
    obtain ⟨v32, c33⟩ : ∃ v, I0 a3 0 = v := ⟨_, rfl⟩
    refine q_getI dX10_presentNight_23 fl10_181 (kR8 hS27.1 ta3) ((hS27.cell ta3 (by decide +kernel)).trans c33) ?_
    refine tr_aload_n dX10_presentNight_26 rfl ?_
    refine q_callVi hE (M' := mX10_allTurners) (as := []) dX10_presentNight_27 lk10_184 inX10_allTurners seX10_allTurners myX10_allTurners (by decide) ⟨by decide, by decide⟩ rfl (kR1 hS27.1 ta0) (Nat.le_of_ble_eq_true rfl) rfl rfl (by decide) (by decide) (k_X10_allTurners hS27.1 ta0) ?_
    rintro v38 cn' K' N' I34 R35 L36 ⟨rfl, rfl, rfl, rfl, rfl, rfl, h39, -⟩
    refine q_callVv hE (M' := mX5_play) (as := [_, _, _, _]) dX10_presentNight_30 lk10_188 inX5_play seX5_play myX5_play (by decide) ⟨by decide, by decide⟩ rfl (kR13 hS27.1 ta15) (Nat.le_of_ble_eq_true rfl) rfl rfl (by decide) (by decide) (k_X5_play hS27.1 ta15 ta1 ta22) ?_
    rintro cn' K' N' I40 R41 L42 ⟨rfl, rfl, rfl, rfl, g43, -⟩
    have hS45 := hS27.tr g43 (by decide +kernel) (by decide +kernel)
    have c46 : I40 a0 11 = v9 := (g43.cell ta0 (by decide +kernel)).trans c28
    have c47 : I40 a0 9 = v29 := (g43.cell ta0 (by decide +kernel)).trans c30
    refine tr_aload_n dX10_presentNight_33 rfl ?_
    refine q_iconst dX10_presentNight_34 (by decide) ?_
    intro v48 h49
    refine q_putZ dX10_presentNight_35 fl10_288 (kR1 hS45.1 ta0) (Or.inl rfl) hS45 ta0 (by omega) (by show (0 : Int) ≤ v48.toInt ∧ v48.toInt ≤ (1 : Int); omega) rfl (by decide +kernel) ?_
    intro I50 hS51 e52 f53
    have c54 : I50 a0 9 = v29 := (f53 _ _ (fun q => absurd q.2 (by decide))).trans c47
    refine tr_aload_n dX10_presentNight_38 rfl ?_
    refine tr_getR dX10_presentNight_39 fl10_58 (kR1 hS51.1 ta0) ((hS51.rcell ta0 (by decide +kernel)).trans d16) ?_
    exact tr_aret hZ dX10_presentNight_42 rfl (by decide) (by decide) ⟨a15, rfl, rfl, rfl, rfl, rfl, hS51, ta15, (SkQ.put (SkQ.st (SkQ.of rp25) hW0 ta0 g43 (by decide +kernel) (by decide +kernel)) hW0 ta0 f53 ta0 (by decide) (fun q => absurd q.2 (by decide))), trivial⟩
def wik_X10_veinMinute : List Nat := [73, 75, 768, 769, 778, 834, 2303, 2367, 2431, 2495, 2559, 2623, 2687, 2751, 2815, 2879, 2943, 3007, 3071, 3135, 3199, 3263, 3327, 3391]
def wrk_X10_veinMinute : List Nat := [832, 833]
set_option maxHeartbeats 4000000 in
theorem fk_X10_veinMinute {l : Launch} {T : Nat → Nat} {cn : Nat} {K N : Nat → Nat} {I0 : cz_I} {R0 : cz_R} {L0 : cz_L} {d : Int} (hW0 : Wf T cn K N I0 R0 d) (gX : Nat → Nat → Int) {a0 : Nat} (ta0 : T a0 = 1) {x1 : Int32} {x2 : Int32} (hX : EvQ I0 R0 a0 gX) (hK : SkQ I0 R0 a0 gX) (hD : DjS R0 a0) : ConE l mX10_veinMinute [.ref a0, .int x1, .int x2] cn K N I0 R0 L0 (ca_i (fun v cn' K' N' I' R' L' => cn = cn' ∧ K = K' ∧ N = N' ∧ L0 = L' ∧ St T cn K N d wik_X10_veinMinute wrk_X10_veinMinute I0 R0 I' R' ∧ (SkQ I' R0 a0 gX) ∧ True)) := by
  refine ConE.of (by decide +kernel) rfl (Nat.le_of_ble_eq_true rfl) rfl (fun X hX hZ hE => ?_)
  subst hX
  have hS0 : St T cn K N d wik_X10_veinMinute wrk_X10_veinMinute I0 R0 I0 R0 := St.rf0 hW0
  obtain ⟨a1, d2, ta1⟩ := rf1_2 hW0 ta0
  obtain ⟨a3, d4, ta3⟩ := rf1_6 hW0 ta0
  obtain ⟨a5, d6, ta5⟩ := rf1_8 hW0 ta0
  obtain ⟨a7, d8, ta7⟩ := rf1_13 hW0 ta0
  refine tr_aload_n dX10_veinMinute_0 rfl ?_
  refine tr_iload_n dX10_veinMinute_1 rfl ?_
  refine q_callVi hE (M' := mX10_isCheese) (as := [_]) dX10_veinMinute_2 lk10_195 inX10_isCheese seX10_isCheese myX10_isCheese (by decide) ⟨by decide, by decide⟩ rfl (kR1 hS0.1 ta0) (Nat.le_of_ble_eq_true rfl) rfl rfl (by decide) (by decide) (k_X10_isCheese hS0.1 ta0) ?_
  rintro v13 cn' K' N' I9 R10 L11 ⟨rfl, rfl, rfl, rfl, rfl, rfl, h14, p15, -⟩
  refine q_if_eq 20 dX10_veinMinute_5 (by decide) (fun h16 => ?_) (fun h16 => ?_)
  · skip
    refine q_iconst dX10_veinMinute_20 (by decide) ?_
    intro v17 h18
    exact tr_iret hZ dX10_veinMinute_21 rfl (by decide) (by decide) ⟨v17, rfl, rfl, rfl, rfl, rfl, hS0, hK, trivial⟩
  · skip
    refine tr_aload_n dX10_veinMinute_8 rfl ?_
    refine q_callVr hE (M' := mX10_presentNight) (as := []) dX10_veinMinute_9 lk10_155 inX10_presentNight seX10_presentNight myX10_presentNight (by decide) ⟨by decide, by decide⟩ rfl (kR1 hS0.1 ta0) (Nat.le_of_ble_eq_true rfl) rfl rfl (by decide) (by decide) (fk_X10_presentNight hS0.1 (gX) ta0 hX hK hD) ?_
    rintro a24 cn' K' N' I19 R20 L21 ⟨rfl, rfl, rfl, rfl, g22, ta24, rp25, -⟩
    have hS26 := hS0.tr g22 (by decide +kernel) (by decide +kernel)
    refine tr_iload_n dX10_veinMinute_12 rfl ?_
    refine tr_iload_n dX10_veinMinute_13 rfl ?_
    refine q_callVi hE (M' := mX5_minuteOfVein) (as := [_, _]) dX10_veinMinute_14 lk10_371 inX5_minuteOfVein seX5_minuteOfVein myX5_minuteOfVein (by decide) ⟨by decide, by decide⟩ rfl (kR13 hS26.1 ta24) (Nat.le_of_ble_eq_true rfl) rfl rfl (by decide) (by decide) (k_X5_minuteOfVein hS26.1 ta24) ?_
    rintro v31 cn' K' N' I27 R28 L29 ⟨rfl, rfl, rfl, rfl, rfl, rfl, -⟩
    refine tr_goto 21 dX10_veinMinute_17 (by decide) ?_
    exact tr_iret hZ dX10_veinMinute_21 rfl (by decide) (by decide) ⟨v31, rfl, rfl, rfl, rfl, rfl, hS26, rp25, trivial⟩
def wik_X10_bestCalls : List Nat := [73, 768, 769, 778, 834, 2303, 2367, 2431, 2495, 2559, 2623, 2687, 2751, 2815, 2879, 2943, 3007, 3071, 3135, 3199, 3263, 3327, 3391]
def wrk_X10_bestCalls : List Nat := [832, 833]
set_option maxHeartbeats 4000000 in
theorem fk_X10_bestCalls {l : Launch} {T : Nat → Nat} {cn : Nat} {K N : Nat → Nat} {I0 : cz_I} {R0 : cz_R} {L0 : cz_L} {d : Int} (hW0 : Wf T cn K N I0 R0 d) (gX : Nat → Nat → Int) {a0 : Nat} (ta0 : T a0 = 1) (hX : EvQ I0 R0 a0 gX) (hK : SkQ I0 R0 a0 gX) (hD : DjS R0 a0) : ConE l mX10_bestCalls [.ref a0] cn K N I0 R0 L0 (ca_i (fun v cn' K' N' I' R' L' => cn = cn' ∧ K = K' ∧ N = N' ∧ L0 = L' ∧ St T cn K N d wik_X10_bestCalls wrk_X10_bestCalls I0 R0 I' R' ∧ (SkQ I' R0 a0 gX) ∧ True)) := by
  refine ConE.of (by decide +kernel) rfl (Nat.le_of_ble_eq_true rfl) rfl (fun X hX hZ hE => ?_)
  subst hX
  have hS0 : St T cn K N d wik_X10_bestCalls wrk_X10_bestCalls I0 R0 I0 R0 := St.rf0 hW0
  obtain ⟨a1, d2, ta1⟩ := rf1_2 hW0 ta0
  obtain ⟨a3, d4, ta3⟩ := rf1_6 hW0 ta0
  obtain ⟨a5, d6, ta5⟩ := rf1_8 hW0 ta0
  obtain ⟨a7, d8, ta7⟩ := rf1_13 hW0 ta0
  refine q_iconst dX10_bestCalls_0 (by decide) ?_
  intro v9 h10
  refine tr_istore_n dX10_bestCalls_1 (by decide) (by decide) ?_
  refine q_ldcw (-100000) dX10_bestCalls_2 ld10_356 (by decide +kernel) ?_
  intro v11 h12
  refine tr_istore_n dX10_bestCalls_5 (by decide) (by decide) ?_
  refine q_iconst dX10_bestCalls_6 (by decide) ?_
  intro v13 h14
  refine tr_istore_n dX10_bestCalls_7 (by decide) (by decide) ?_
  have lp27 : ∀ (fu : Nat) (ls : Nat → Option Value) (v15 : Int32) (v16 : Int32) (v17 : Int32) (I22 : cz_I) (R23 : cz_R), ls 0 = some (.ref a0) → ls 1 = some (.int v15) → ls 2 = some (.int v16) → ls 3 = some (.int v17) → St T cn K N d wik_X10_bestCalls wrk_X10_bestCalls I0 R0 I22 R23 → 0 ≤ v17.toInt → (SkQ I22 R0 a0 gX) → (-v17.toInt + 2147483647).toNat < fu → Tr X mX10_bestCalls 8 ls [] cn K N I22 R23 L0 0 0 := by
    intro fu
    induction fu with
    | zero => intros; rename_i hz; exact absurd hz (Nat.not_lt_zero _)
    | succ fu ih27 =>
      intro ls v15 v16 v17 I22 R23 hl18 hl19 hl20 hl21 hS24 g25 rw26 hm27
      refine tr_iload_n dX10_bestCalls_8 hl21 ?_
      refine tr_aload_n dX10_bestCalls_9 hl18 ?_
      refine q_callVi hE (M' := mX10_allCalls) (as := []) dX10_bestCalls_10 lk10_263 inX10_allCalls seX10_allCalls myX10_allCalls (by decide) ⟨by decide, by decide⟩ rfl (kR1 hS24.1 ta0) (Nat.le_of_ble_eq_true rfl) rfl rfl (by decide) (by decide) (k_X10_allCalls hS24.1 ta0) ?_
      rintro v33 cn' K' N' I29 R30 L31 ⟨rfl, rfl, rfl, rfl, rfl, rfl, h34, -⟩
      refine q_icmp_gt 91 dX10_bestCalls_13 (by decide) (fun h35 => ?_) (fun h35 => ?_)
      · skip
        refine tr_iload_n dX10_bestCalls_91 hl19 ?_
        exact tr_iret hZ dX10_bestCalls_92 rfl (by decide) (by decide) ⟨v15, rfl, rfl, rfl, rfl, rfl, hS24, rw26, trivial⟩
      · skip
        refine tr_aload_n dX10_bestCalls_16 hl18 ?_
        obtain ⟨a36, d37, ta36⟩ := rf1_14 hW0 ta0
        refine tr_getR dX10_bestCalls_17 fl10_68 (kR1 hS24.1 ta0) ((hS24.rcell ta0 (by decide +kernel)).trans d37) ?_
        refine tr_aload_n dX10_bestCalls_20 hl18 ?_
        refine tr_getR dX10_bestCalls_21 fl10_16 (kR1 hS24.1 ta0) ((hS24.rcell ta0 (by decide +kernel)).trans d2) ?_
        refine tr_aload_n dX10_bestCalls_24 hl18 ?_
        refine q_callVr hE (M' := mX10_presentSky) (as := []) dX10_bestCalls_25 lk10_119 inX10_presentSky seX10_presentSky myX10_presentSky (by decide) ⟨by decide, by decide⟩ rfl (kR1 hS24.1 ta0) (Nat.le_of_ble_eq_true rfl) rfl rfl (by decide) (by decide) (fk_X10_presentSky hS24.1 (gX) ta0 (EvQ.rc (EvQ.st hX hW0 ta0 hS24 (by decide +kernel)) hW0 ta0 (R13 hS24 (by decide +kernel))) (SkQ.rc rw26 hW0 ta0 (R13 hS24 (by decide +kernel))) (DjS.rc hD hW0 ta0 (R13 hS24 (by decide +kernel)))) ?_
        rintro a43 cn' K' N' I38 R39 L40 ⟨rfl, rfl, rfl, rfl, rfl, g41, ta43, p44, rp45, rp46, rp47, -⟩
        have hS48 := hS24.tr g41 (by decide +kernel) (by decide +kernel)
        obtain ⟨v49, c50⟩ : ∃ v, I38 a0 9 = v := ⟨_, rfl⟩
        have b51 := iv1_9 hS48.1 ta0 c50
        rw [c50] at p44
        refine tr_iload_n dX10_bestCalls_28 hl21 ?_
        refine tr_aload_n dX10_bestCalls_29 hl18 ?_
        refine q_callVi hE (M' := mX10_allTurners) (as := []) dX10_bestCalls_30 lk10_184 inX10_allTurners seX10_allTurners myX10_allTurners (by decide) ⟨by decide, by decide⟩ rfl (kR1 hS48.1 ta0) (Nat.le_of_ble_eq_true rfl) rfl rfl (by decide) (by decide) (k_X10_allTurners hS48.1 ta0) ?_
        rintro v56 cn' K' N' I52 R53 L54 ⟨rfl, rfl, rfl, rfl, rfl, rfl, h57, -⟩
        refine q_callVv hE (M' := mX5_play) (as := [_, _, _, _]) dX10_bestCalls_33 lk10_188 inX5_play seX5_play myX5_play (by decide) ⟨by decide, by decide⟩ rfl (kR13 hS48.1 ta36) (Nat.le_of_ble_eq_true rfl) rfl rfl (by decide) (by decide) (k_X5_play hS48.1 ta36 ta1 ta43) ?_
        rintro cn' K' N' I58 R59 L60 ⟨rfl, rfl, rfl, rfl, g61, -⟩
        have hS63 := hS48.tr g61 (by decide +kernel) (by decide +kernel)
        have c64 : I58 a0 9 = v49 := (g61.cell ta0 (by decide +kernel)).trans c50
        refine tr_aload_n dX10_bestCalls_36 hl18 ?_
        refine tr_getR dX10_bestCalls_37 fl10_68 (kR1 hS63.1 ta0) ((hS63.rcell ta0 (by decide +kernel)).trans d37) ?_
        refine q_callVi hE (M' := mX5_sum) (as := []) dX10_bestCalls_40 lk10_192 inX5_sum seX5_sum myX5_sum (by decide) ⟨by decide, by decide⟩ rfl (kR13 hS63.1 ta36) (Nat.le_of_ble_eq_true rfl) rfl rfl (by decide) (by decide) (k_X5_sum hS63.1 ta36) ?_
        rintro v69 cn' K' N' I65 R66 L67 ⟨rfl, rfl, rfl, rfl, rfl, rfl, -⟩
        refine tr_istore dX10_bestCalls_43 (by decide) (by decide) ?_
        refine tr_iload_n dX10_bestCalls_45 hl21 ?_
        refine q_callSi hE (M' := mJ6_bitCount_0f7a4) (as := [_]) dX10_bestCalls_46 lk10_247 inJ6_bitCount_0f7a4 myJ6_bitCount_0f7a4 ⟨by decide, by decide⟩ rfl (Nat.le_of_ble_eq_true rfl) rfl rfl (by decide) (by decide) (k_J6_bitCount_0f7a4 hS63.1 ) ?_
        rintro v74 cn' K' N' I70 R71 L72 ⟨rfl, rfl, rfl, rfl, rfl, rfl, -⟩
        refine tr_iload_n dX10_bestCalls_49 hl19 ?_
        refine q_callSi hE (M' := mJ6_bitCount_0f7a4) (as := [_]) dX10_bestCalls_50 lk10_247 inJ6_bitCount_0f7a4 myJ6_bitCount_0f7a4 ⟨by decide, by decide⟩ rfl (Nat.le_of_ble_eq_true rfl) rfl rfl (by decide) (by decide) (k_J6_bitCount_0f7a4 hS63.1 ) ?_
        rintro v79 cn' K' N' I75 R76 L77 ⟨rfl, rfl, rfl, rfl, rfl, rfl, -⟩
        refine q_icmp_ge 60 dX10_bestCalls_53 (by decide) (fun h80 => ?_) (fun h80 => ?_)
        · skip
          refine q_iconst dX10_bestCalls_60 (by decide) ?_
          intro v81 h82
          refine tr_istore dX10_bestCalls_61 (by decide) (by decide) ?_
          refine tr_iload dX10_bestCalls_63 rfl ?_
          refine tr_iload_n dX10_bestCalls_65 hl20 ?_
          refine q_icmp_gt 80 dX10_bestCalls_66 (by decide) (fun h83 => ?_) (fun h83 => ?_)
          · skip
            refine tr_iload dX10_bestCalls_80 rfl ?_
            refine tr_istore_n dX10_bestCalls_82 (by decide) (by decide) ?_
            refine tr_iload_n dX10_bestCalls_83 hl21 ?_
            refine tr_istore_n dX10_bestCalls_84 (by decide) (by decide) ?_
            refine q_iincE dX10_bestCalls_85 hl21 (by decide) (by decide) (by intros; omega) ?_
            intro v84 h85
            refine tr_goto 8 dX10_bestCalls_88 (by decide) ?_
            exact ih27 _ v17 v69 v84 I58 R59 hl18 rfl rfl rfl hS63 (by omega) (SkQ.st (SkQ.of (SkW.rc rp46 hS24.1 ta0 (fun a j q => (R13 hS24 (by decide +kernel) a j q).symm))) hW0 ta0 g61 (by decide +kernel) (by decide +kernel)) (by omega)
          · skip
            refine tr_iload dX10_bestCalls_69 rfl ?_
            refine tr_iload_n dX10_bestCalls_71 hl20 ?_
            refine q_icmp_ne 85 dX10_bestCalls_72 (by decide) (fun h86 => ?_) (fun h86 => ?_)
            · skip
              refine q_iincE dX10_bestCalls_85 hl21 (by decide) (by decide) (by intros; omega) ?_
              intro v87 h88
              refine tr_goto 8 dX10_bestCalls_88 (by decide) ?_
              exact ih27 _ v15 v16 v87 I58 R59 hl18 hl19 hl20 rfl hS63 (by omega) (SkQ.st (SkQ.of (SkW.rc rp46 hS24.1 ta0 (fun a j q => (R13 hS24 (by decide +kernel) a j q).symm))) hW0 ta0 g61 (by decide +kernel) (by decide +kernel)) (by omega)
            · skip
              refine tr_iload dX10_bestCalls_75 rfl ?_
              refine q_if_eq 85 dX10_bestCalls_77 (by decide) (fun h89 => ?_) (fun h89 => ?_)
              · skip
                refine q_iincE dX10_bestCalls_85 hl21 (by decide) (by decide) (by intros; omega) ?_
                intro v90 h91
                refine tr_goto 8 dX10_bestCalls_88 (by decide) ?_
                exact ih27 _ v15 v16 v90 I58 R59 hl18 hl19 hl20 rfl hS63 (by omega) (SkQ.st (SkQ.of (SkW.rc rp46 hS24.1 ta0 (fun a j q => (R13 hS24 (by decide +kernel) a j q).symm))) hW0 ta0 g61 (by decide +kernel) (by decide +kernel)) (by omega)
              · skip
                exfalso; omega
        · skip
          refine q_iconst dX10_bestCalls_56 (by decide) ?_
          intro v92 h93
          refine tr_goto 61 dX10_bestCalls_57 (by decide) ?_
          refine tr_istore dX10_bestCalls_61 (by decide) (by decide) ?_
          refine tr_iload dX10_bestCalls_63 rfl ?_
          refine tr_iload_n dX10_bestCalls_65 hl20 ?_
          refine q_icmp_gt 80 dX10_bestCalls_66 (by decide) (fun h94 => ?_) (fun h94 => ?_)
          · skip
            refine tr_iload dX10_bestCalls_80 rfl ?_
            refine tr_istore_n dX10_bestCalls_82 (by decide) (by decide) ?_
            refine tr_iload_n dX10_bestCalls_83 hl21 ?_
            refine tr_istore_n dX10_bestCalls_84 (by decide) (by decide) ?_
            refine q_iincE dX10_bestCalls_85 hl21 (by decide) (by decide) (by intros; omega) ?_
            intro v95 h96
            refine tr_goto 8 dX10_bestCalls_88 (by decide) ?_
            exact ih27 _ v17 v69 v95 I58 R59 hl18 rfl rfl rfl hS63 (by omega) (SkQ.st (SkQ.of (SkW.rc rp46 hS24.1 ta0 (fun a j q => (R13 hS24 (by decide +kernel) a j q).symm))) hW0 ta0 g61 (by decide +kernel) (by decide +kernel)) (by omega)
          · skip
            refine tr_iload dX10_bestCalls_69 rfl ?_
            refine tr_iload_n dX10_bestCalls_71 hl20 ?_
            refine q_icmp_ne 85 dX10_bestCalls_72 (by decide) (fun h97 => ?_) (fun h97 => ?_)
            · skip
              refine q_iincE dX10_bestCalls_85 hl21 (by decide) (by decide) (by intros; omega) ?_
              intro v98 h99
              refine tr_goto 8 dX10_bestCalls_88 (by decide) ?_
              exact ih27 _ v15 v16 v98 I58 R59 hl18 hl19 hl20 rfl hS63 (by omega) (SkQ.st (SkQ.of (SkW.rc rp46 hS24.1 ta0 (fun a j q => (R13 hS24 (by decide +kernel) a j q).symm))) hW0 ta0 g61 (by decide +kernel) (by decide +kernel)) (by omega)
            · skip
              refine tr_iload dX10_bestCalls_75 rfl ?_
              refine q_if_eq 85 dX10_bestCalls_77 (by decide) (fun h100 => ?_) (fun h100 => ?_)
              · skip
                exfalso; omega
              · skip
                refine tr_iload dX10_bestCalls_80 rfl ?_
                refine tr_istore_n dX10_bestCalls_82 (by decide) (by decide) ?_
                refine tr_iload_n dX10_bestCalls_83 hl21 ?_
                refine tr_istore_n dX10_bestCalls_84 (by decide) (by decide) ?_
                refine q_iincE dX10_bestCalls_85 hl21 (by decide) (by decide) (by intros; omega) ?_
                intro v101 h102
                refine tr_goto 8 dX10_bestCalls_88 (by decide) ?_
                exact ih27 _ v17 v69 v101 I58 R59 hl18 rfl rfl rfl hS63 (by omega) (SkQ.st (SkQ.of (SkW.rc rp46 hS24.1 ta0 (fun a j q => (R13 hS24 (by decide +kernel) a j q).symm))) hW0 ta0 g61 (by decide +kernel) (by decide +kernel)) (by omega)
  exact lp27 _ _ v9 v11 v13 I0 R0 rfl rfl rfl rfl hS0 (by omega) hK (Nat.lt_succ_self _)
