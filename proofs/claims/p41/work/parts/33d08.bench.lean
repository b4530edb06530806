def wik_X8_build_1 : List Nat := [768, 769, 778, 2303, 2367, 2431, 2495, 2559, 2623, 2687, 2751, 2815]
def wrk_X8_build_1 : List Nat := []
set_option maxHeartbeats 4000000 in
theorem fk_X8_build_1 {l : Launch} {T : Nat → Nat} {cn : Nat} {K N : Nat → Nat} {I0 : cz_I} {R0 : cz_R} {L0 : cz_L} {d : Int} (hW0 : Wf T cn K N I0 R0 d) (gX : Nat → Nat → Int) {a0 : Nat} (ta0 : T a0 = 12) {a1 : Nat} (ta1 : T a1 = 2) {a2 : Nat} (ta2 : T a2 = 9) {x3 : Int32} (hX : EvX I0 R0 a1 a2 gX) : ConE l mX8_build [.ref a0, .ref a1, .ref a2, .int x3] cn K N I0 R0 L0 (ca_v (fun cn' K' N' I' R' L' => cn = cn' ∧ K = K' ∧ N = N' ∧ R0 = R' ∧ L0 = L' ∧ St T cn K N d wik_X8_build_1 wrk_X8_build_1 I0 R0 I' R0 ∧ (SkF I' R0 a0 (I0 a1 0).toInt (I0 a1 1).toInt x3.toInt gX ((I0 a1 3).toInt.toNat + (I0 a2 2).toInt.toNat) (I0 a1 0).toInt) ∧ (FrS R0 a0 T I0 I') ∧ True)) := by
  refine ConE.of (by decide +kernel) rfl (Nat.le_of_ble_eq_true rfl) rfl (fun X hX hZ hE => ?_)
  subst hX
  have hS0 : St T cn K N d wik_X8_build_1 wrk_X8_build_1 I0 R0 I0 R0 := St.rf0 hW0
  obtain ⟨a11, d12, ta11⟩ := rf12_2 hW0 ta0
  obtain ⟨a13, d14, ta13⟩ := rf12_3 hW0 ta0
  obtain ⟨a15, d16, ta15⟩ := rf12_4 hW0 ta0
  obtain ⟨a17, d18, ta17⟩ := rf12_5 hW0 ta0
  obtain ⟨a19, d20, ta19⟩ := rf12_6 hW0 ta0
  obtain ⟨a21, d22, ta21⟩ := rf12_7 hW0 ta0
  obtain ⟨a23, d24, ta23⟩ := rf12_8 hW0 ta0
  obtain ⟨a25, d26, ta25⟩ := rf12_9 hW0 ta0
  obtain ⟨a27, d28, ta27⟩ := rf12_11 hW0 ta0
  obtain ⟨v29, c30⟩ : ∃ v, I0 a1 0 = v := ⟨_, rfl⟩
  have b31 := iv2_0 hW0 ta1 c30
  obtain ⟨v32, c33⟩ : ∃ v, I0 a1 1 = v := ⟨_, rfl⟩
  have b34 := iv2_1 hW0 ta1 c33
  obtain ⟨v35, c36⟩ : ∃ v, I0 a1 3 = v := ⟨_, rfl⟩
  have b37 := iv2_3 hW0 ta1 c36
  obtain ⟨v38, c39⟩ : ∃ v, I0 a2 2 = v := ⟨_, rfl⟩
  have b40 := iv9_2 hW0 ta2 c39
  obtain ⟨a41, d42, ta41⟩ := rf2_4 hW0 ta1
  obtain ⟨a43, d44, ta43⟩ := rf9_3 hW0 ta2
  obtain ⟨a45, d46, ta45⟩ := rf9_4 hW0 ta2
  refine tr_aload_n dX8_build_0 rfl ?_
  refine tr_aload_n dX8_build_1 rfl ?_
  refine q_getI dX8_build_2 fl8_40 (kR2 hS0.1 ta1) c30 ?_
  refine q_putI dX8_build_5 fl8_46 (kR12 hS0.1 ta0) (Or.inl rfl) hS0 ta0 (by show (0 : Int) ≤ v29.toInt ∧ v29.toInt ≤ (240 : Int); omega) rfl (by decide +kernel) ?_
  intro I47 hS48 e49 f50
  refine tr_aload_n dX8_build_8 rfl ?_
  refine q_iconst dX8_build_9 (by decide) ?_
  intro v51 h52
  refine tr_aload_n dX8_build_10 rfl ?_
  refine q_getI dX8_build_11 fl8_47 (kR2 hS48.1 ta1) ((hS48.cell ta1 (by decide +kernel)).trans c33) ?_
  refine tr_ishl dX8_build_14 ?_
  obtain ⟨v53, lx54⟩ : ∃ z, z = v51 <<< (v32 &&& 31) := ⟨_, rfl⟩
  rw [← lx54]
  refine q_iconst dX8_build_15 (by decide) ?_
  intro v55 h56
  refine tr_isub dX8_build_16 ?_
  obtain ⟨v57, lx58⟩ : ∃ z, z = v53 - v55 := ⟨_, rfl⟩
  rw [← lx58]
  refine q_putI dX8_build_17 fl8_50 (kR12 hS48.1 ta0) (Or.inl rfl) hS48 ta0 (iokF rfl) rfl (by decide +kernel) ?_
  intro I59 hS60 e61 f62
  have c63 : I59 a0 0 = v29 := (f62 _ _ (fun q => absurd q.2 (by decide))).trans e49
  refine tr_aload_n dX8_build_20 rfl ?_
  refine q_callVv hE (M' := mX8_wipe) (as := []) dX8_build_21 lk8_53 inX8_wipe seX8_wipe myX8_wipe (by decide) ⟨by decide, by decide⟩ rfl (kR12 hS60.1 ta0) (Nat.le_of_ble_eq_true rfl) rfl rfl (by decide) (by decide) (fk_X8_wipe hS60.1  ta0) ?_
  rintro cn' K' N' I64 R65 L66 ⟨rfl, rfl, rfl, rfl, rfl, g67, rp70, rp71, -⟩
  have hS72 := hS60.tr g67 (by decide +kernel) (by decide +kernel)
  have c73 : I64 a0 0 = v29 := (g67.cell ta0 (by decide +kernel)).trans c63
  have c74 : I64 a0 1 = v57 := (g67.cell ta0 (by decide +kernel)).trans e61
  refine q_iconst dX8_build_24 (by decide) ?_
  intro v75 h76
  refine tr_istore dX8_build_25 (by decide) (by decide) ?_
  have lp93 : ∀ (fu : Nat) (ls : Nat → Option Value) (v77 : Int32) (I83 : cz_I) (v85 : Int32), ls 0 = some (.ref a0) → ls 1 = some (.ref a1) → ls 2 = some (.ref a2) → ls 3 = some (.int x3) → ls 4 = some (.int v77) → St T cn K N d wik_X8_build_1 wrk_X8_build_1 I0 R0 I83 R0 → I83 a0 0 = v85 → 0 ≤ v77.toInt → v77.toInt ≤ v35.toInt → (SkR I83 R0 a0 v29.toInt x3.toInt gX (v77.toInt.toNat)) → (Bts (I83 a0 1) (fun j => if (j : Int) < v32.toInt then 1 else 0)) → (FrS R0 a0 T I0 I83) → (v85.toInt = v29.toInt) → (-v77.toInt + 2147483647).toNat < fu → Tr X mX8_build 27 ls [] cn K N I83 R0 L0 0 0 := by
    intro fu
    induction fu with
    | zero => intros; rename_i hz; exact absurd hz (Nat.not_lt_zero _)
    | succ fu ih93 =>
      intro ls v77 I83 v85 hl78 hl79 hl80 hl81 hl82 hS84 c86 g87 g88 rw89 rw90 rw91 rw92 hm93
      have b95 := iv12_0 hS84.1 ta0 c86
      refine tr_iload dX8_build_27 hl82 ?_
      refine tr_aload_n dX8_build_29 hl79 ?_
      refine q_getI dX8_build_30 fl8_56 (kR2 hS84.1 ta1) ((hS84.cell ta1 (by decide +kernel)).trans c36) ?_
      refine q_icmp_ge 59 dX8_build_33 (by decide) (fun h96 => ?_) (fun h96 => ?_)
      · skip
        refine q_iconst dX8_build_59 (by decide) ?_
        intro v97 h98
        refine tr_istore dX8_build_60 (by decide) (by decide) ?_
        have lp115 : ∀ (fu : Nat) (ls : Nat → Option Value) (v99 : Int32) (I105 : cz_I) (v107 : Int32), ls 0 = some (.ref a0) → ls 1 = some (.ref a1) → ls 2 = some (.ref a2) → ls 3 = some (.int x3) → ls 4 = some (.int v99) → St T cn K N d wik_X8_build_1 wrk_X8_build_1 I0 R0 I105 R0 → I105 a0 0 = v107 → 0 ≤ v99.toInt → v99.toInt ≤ v38.toInt → (SkR I105 R0 a0 v29.toInt x3.toInt gX (v35.toInt.toNat + v99.toInt.toNat)) → (Bts (I105 a0 1) (fun j => if (j : Int) < v32.toInt then 1 else 0)) → (FrS R0 a0 T I0 I105) → (v107.toInt = v29.toInt) → (-v99.toInt + 2147483647).toNat < fu → Tr X mX8_build 62 ls [] cn K N I105 R0 L0 0 0 := by
          intro fu
          induction fu with
          | zero => intros; rename_i hz; exact absurd hz (Nat.not_lt_zero _)
          | succ fu ih115 =>
            intro ls v99 I105 v107 hl100 hl101 hl102 hl103 hl104 hS106 c108 g109 g110 rw111 rw112 rw113 rw114 hm115
            have b117 := iv12_0 hS106.1 ta0 c108
            refine tr_iload dX8_build_62 hl104 ?_
            refine tr_aload_n dX8_build_64 hl102 ?_
            refine q_getI dX8_build_65 fl8_67 (kR9 hS106.1 ta2) ((hS106.cell ta2 (by decide +kernel)).trans c39) ?_
            refine q_icmp_ge 106 dX8_build_68 (by decide) (fun h118 => ?_) (fun h118 => ?_)
            · skip
              refine tr_aload_n dX8_build_106 hl100 ?_
              refine q_callVv hE (M' := mX8_findLight) (as := []) dX8_build_107 lk8_82 inX8_findLight seX8_findLight myX8_findLight (by decide) ⟨by decide, by decide⟩ rfl (kR12 hS106.1 ta0) (Nat.le_of_ble_eq_true rfl) rfl rfl (by decide) (by decide) (fk_X8_findLight hS106.1 (gX) (v35.toInt.toNat + v38.toInt.toNat) (x3.toInt) (v32.toInt) ta0 (by have z := rw111; rw [show v99.toInt.toNat = v38.toInt.toNat by omega, show v29.toInt = v107.toInt by omega] at z; rw [c108]; exact z) rw112) ?_
              rintro cn' K' N' I119 R120 L121 ⟨rfl, rfl, rfl, rfl, rfl, g122, rp125, rp126, -⟩
              have hS127 := hS106.tr g122 (by decide +kernel) (by decide +kernel)
              have c128 : I119 a0 0 = v107 := (g122.cell ta0 (by decide +kernel)).trans c108
              refine tr_aload_n dX8_build_110 hl100 ?_
              refine tr_aload_n dX8_build_111 hl101 ?_
              obtain ⟨a129, d130, ta129⟩ := rf2_8 hW0 ta1
              refine tr_getR dX8_build_112 fl8_85 (kR2 hS127.1 ta1) d130 ?_
              refine q_callVv hE (M' := mX8_findStirs) (as := [_]) dX8_build_115 lk8_89 inX8_findStirs seX8_findStirs myX8_findStirs (by decide) ⟨by decide, by decide⟩ rfl (kR12 hS127.1 ta0) (Nat.le_of_ble_eq_true rfl) rfl rfl (by decide) (by decide) (fk_X8_findStirs hS127.1  ta0 ta129) ?_
              rintro cn' K' N' I131 R132 L133 ⟨rfl, rfl, rfl, rfl, rfl, g134, rp137, -⟩
              have hS138 := hS127.tr g134 (by decide +kernel) (by decide +kernel)
              have c139 : I131 a0 0 = v107 := (g134.cell ta0 (by decide +kernel)).trans c128
              exact tr_vret hZ dX8_build_118 rfl (by decide) (by decide) ⟨rfl, rfl, rfl, rfl, rfl, rfl, hS138, (by rw [c30, c33, c36, c39]; have z := SkF.kp rp125 (fun r m k h2 h9 hr => by have hk : k = 2 ∨ k = 3 ∨ k = 4 ∨ k = 5 ∨ k = 6 ∨ k = 7 ∨ k = 8 ∨ k = 9 := (by omega); rcases hk with rfl | rfl | rfl | rfl | rfl | rfl | rfl | rfl; exact g134.cell (hS106.1.rs ta0 rfl rfl hr : T r = 35) (wm_no (by decide +kernel)); exact g134.cell (hS106.1.rs ta0 rfl rfl hr : T r = 36) (wm_no (by decide +kernel)); exact g134.cell (hS106.1.rs ta0 rfl rfl hr : T r = 37) (wm_no (by decide +kernel)); exact g134.cell (hS106.1.rs ta0 rfl rfl hr : T r = 38) (wm_no (by decide +kernel)); exact g134.cell (hS106.1.rs ta0 rfl rfl hr : T r = 39) (wm_no (by decide +kernel)); exact g134.cell (hS106.1.rs ta0 rfl rfl hr : T r = 40) (wm_no (by decide +kernel)); exact g134.cell (hS106.1.rs ta0 rfl rfl hr : T r = 41) (wm_no (by decide +kernel)); exact g134.cell (hS106.1.rs ta0 rfl rfl hr : T r = 42) (wm_no (by decide +kernel))); rw [c108, show v107.toInt = v29.toInt by omega] at z; exact z), ((rw113.tr rp126).tr rp137), trivial⟩
            · skip
              refine tr_aload_n dX8_build_71 hl101 ?_
              refine q_getI dX8_build_72 fl8_56 (kR2 hS106.1 ta1) ((hS106.cell ta1 (by decide +kernel)).trans c36) ?_
              refine tr_iload dX8_build_75 hl104 ?_
              refine q_iaddE dX8_build_77 (by intros; omega) ?_
              intro v140 h141
              refine tr_iload_n dX8_build_78 hl103 ?_
              refine q_icmp_eq 100 dX8_build_79 (by decide) (fun h142 => ?_) (fun h142 => ?_)
              · skip
                refine q_iincE dX8_build_100 hl104 (by decide) (by decide) (by intros; omega) ?_
                intro v143 h144
                refine tr_goto 62 dX8_build_103 (by decide) ?_
                exact ih115 _ v143 I105 v107 hl100 hl101 hl102 hl103 rfl hS106 c108 (by omega) (by omega) (by rw [show v35.toInt.toNat + v143.toInt.toNat = v35.toInt.toNat + v99.toInt.toNat + 1 by omega]; exact SkR.skip rw111 (by omega)) (by rw [show (0 : Int) = 0 from rfl]; exact rw112) rw113 (by omega) (by omega)
              · skip
                refine tr_aload_n dX8_build_82 hl100 ?_
                refine tr_aload_n dX8_build_83 hl102 ?_
                refine tr_getR dX8_build_84 fl8_72 (kR9 hS106.1 ta2) d44 ?_
                refine tr_iload dX8_build_87 hl104 ?_
                refine q_iald dX8_build_89 (kR29 hS106.1 ta43) (ti_in (nR29 hS106.1 ta43) (by omega) (by omega)) ?_
                intro v145 c146
                have b147 := iv29 hS106.1 ta43 c146
                refine tr_aload_n dX8_build_90 hl102 ?_
                refine tr_getR dX8_build_91 fl8_75 (kR9 hS106.1 ta2) d46 ?_
                refine tr_iload dX8_build_94 hl104 ?_
                refine q_iald dX8_build_96 (kR30 hS106.1 ta45) (ti_in (nR30 hS106.1 ta45) (by omega) (by omega)) ?_
                intro v148 c149
                have b150 := iv30 hS106.1 ta45 c149
                refine q_callVv hE (M' := mX8_layCloud) (as := [_, _]) dX8_build_97 lk8_78 inX8_layCloud seX8_layCloud myX8_layCloud (by decide) ⟨by decide, by decide⟩ rfl (kR12 hS106.1 ta0) (Nat.le_of_ble_eq_true rfl) rfl rfl (by decide) (by decide) (fk_X8_layCloud hS106.1  ta0 (by omega) (by omega)) ?_
                rintro cn' K' N' I151 R152 L153 ⟨rfl, rfl, rfl, rfl, rfl, g154, rp157, rp158, -⟩
                have hS159 := hS106.tr g154 (by decide +kernel) (by decide +kernel)
                have c160 : I151 a0 0 = v107 := (g154.cell ta0 (by decide +kernel)).trans c108
                refine q_iincE dX8_build_100 hl104 (by decide) (by decide) (by intros; omega) ?_
                intro v161 h162
                refine tr_goto 62 dX8_build_103 (by decide) ?_
                exact ih115 _ v161 I151 v107 hl100 hl101 hl102 hl103 rfl hS159 c160 (by omega) (by omega) (by have hx := (hX.2 _ _ v99.toInt.toNat d44 d46 (by rw [c39]; omega)); rw [c36, (show (I0 a43 v99.toInt.toNat) = v145 from (hS106.cell ta43 (wm_no (by decide +kernel))).symm.trans c146), (show (I0 a45 v99.toInt.toNat) = v148 from (hS106.cell ta45 (wm_no (by decide +kernel))).symm.trans c149)] at hx; rw [show v35.toInt.toNat + v161.toInt.toNat = v35.toInt.toNat + v99.toInt.toNat + 1 by omega]; exact SkR.lay (kd := 0) (fr := v145.toInt) (to := v148.toInt) (hut := 0) rw111 (by omega) hx.1 hx.2.1 hx.2.2 (fun w => by exfalso; omega) (fun r hr => LyI.z (fun m => (g154.cell (hS106.1.rs ta0 rfl rfl hr : T r = 35) (wm_no (by decide +kernel)))) (by split <;> omega)) (fun r hr => LyI.z (fun m => (g154.cell (hS106.1.rs ta0 rfl rfl hr : T r = 36) (wm_no (by decide +kernel)))) (by split <;> omega)) (fun r hr => by rw [if_pos rfl]; exact rp157 _ hr) (fun r hr => LyB.z (fun m => (g154.cell (hS106.1.rs ta0 rfl rfl hr : T r = 38) (wm_no (by decide +kernel)))) (by split <;> omega)) (fun r hr => LyB.z (fun m => (g154.cell (hS106.1.rs ta0 rfl rfl hr : T r = 40) (wm_no (by decide +kernel)))) (by split <;> omega))) (by rw [show I151 a0 1 = _ from (g154.cell ta0 (wm_no (by decide +kernel)))]; exact rw112) (rw113.tr rp158) (by omega) (by omega)
        exact lp115 _ _ v97 I83 v85 hl78 hl79 hl80 hl81 rfl hS84 c86 (by omega) (by omega) (by have z := rw89; rw [show v77.toInt.toNat = v35.toInt.toNat + v97.toInt.toNat by omega] at z; exact z) (by rw [show (0 : Int) = 0 from rfl]; exact rw90) rw91 (by omega) (Nat.lt_succ_self _)
      · skip
        refine tr_iload dX8_build_36 hl82 ?_
        refine tr_iload_n dX8_build_38 hl81 ?_
        refine q_icmp_eq 53 dX8_build_39 (by decide) (fun h163 => ?_) (fun h163 => ?_)
        · skip
          refine q_iincE dX8_build_53 hl82 (by decide) (by decide) (by intros; omega) ?_
          intro v164 h165
          refine tr_goto 27 dX8_build_56 (by decide) ?_
          exact ih93 _ v164 I83 v85 hl78 hl79 hl80 hl81 rfl hS84 c86 (by omega) (by omega) (by rw [show v164.toInt.toNat = v77.toInt.toNat + 1 by omega]; exact SkR.skip rw89 (by omega)) (by rw [show (0 : Int) = 0 from rfl]; exact rw90) rw91 (by omega) (by omega)
        · skip
          refine tr_aload_n dX8_build_42 hl78 ?_
          refine tr_aload_n dX8_build_43 hl79 ?_
          refine tr_getR dX8_build_44 fl8_59 (kR2 hS84.1 ta1) d42 ?_
          refine tr_iload dX8_build_47 hl82 ?_
          obtain ⟨a166, d167, ta166⟩ := rf19 hS84.1 ta41 (j := v77.toNatClampNeg) (ti_lt (by omega) (by omega))
          refine tr_aald dX8_build_49 (kR19 hS84.1 ta41) (by decide) (by decide) (ti_in (nR19 hS84.1 ta41) (by omega) (by omega)) d167 ?_
          obtain ⟨v168, c169⟩ : ∃ v, I0 a166 0 = v := ⟨_, rfl⟩
          obtain ⟨v171, c172⟩ : ∃ v, I0 a166 1 = v := ⟨_, rfl⟩
          obtain ⟨v173, c174⟩ : ∃ v, I0 a166 2 = v := ⟨_, rfl⟩
          have b175 := iv3_2 hW0 ta166 c174
          obtain ⟨v176, c177⟩ : ∃ v, I0 a166 3 = v := ⟨_, rfl⟩
          have b178 := iv3_3 hW0 ta166 c177
          have hq170 := hX.1 _ d42 v77.toInt.toNat _ (by rw [c36]; omega) d167
          have hq170k : 0 ≤ v168.toInt ∧ v168.toInt ≤ 4 := by obtain ⟨q0, -, -, -, q4, q5, -⟩ := hq170; rw [c169] at q0; omega
          refine q_callVv hE (M' := mX8_layEvent) (as := [_]) dX8_build_50 lk8_63 inX8_layEvent seX8_layEvent myX8_layEvent (by decide) ⟨by decide, by decide⟩ rfl (kR12 hS84.1 ta0) (Nat.le_of_ble_eq_true rfl) rfl rfl (by decide) (by decide) (fk_X8_layEvent hS84.1  ta0 ta166 (by (try rw [((hS84.cell ta166 (by decide +kernel)).trans c169)]); first | done | with_reducible assumption | omega) (by (try rw [((hS84.cell ta166 (by decide +kernel)).trans c169)]); first | done | with_reducible assumption | omega)) ?_
          rintro cn' K' N' I179 R180 L181 ⟨rfl, rfl, rfl, rfl, rfl, g182, rp185, rp186, rp187, rp188, rp189, rp190, -⟩
          have hS191 := hS84.tr g182 (by decide +kernel) (by decide +kernel)
          have c192 : I179 a0 0 = v85 := (g182.cell ta0 (by decide +kernel)).trans c86
          refine q_iincE dX8_build_53 hl82 (by decide) (by decide) (by have z0 := x3.toInt_lt; have y0 := x3.le_toInt; intros; omega) ?_
          intro v193 h194
          refine tr_goto 27 dX8_build_56 (by decide) ?_
          exact ih93 _ v193 I179 v85 hl78 hl79 hl80 hl81 rfl hS191 c192 (by omega) (by omega) (by rw [show v193.toInt.toNat = v77.toInt.toNat + 1 by omega]; exact SkR.lay rw89 (by omega) (by rw [(hS84.cell ta166 (by decide +kernel))]; exact (hq170.1).symm) (by rw [(hS84.cell ta166 (by decide +kernel))]; exact (hq170.2.2.1).symm) (by rw [(hS84.cell ta166 (by decide +kernel))]; exact (hq170.2.2.2.1).symm) (fun w => by rw [(hS84.cell ta166 (by decide +kernel))] at w; rw [(hS84.cell ta166 (by decide +kernel))]; obtain ⟨q0, q1, -, -, -, -, q6⟩ := hq170; have y := q6 (by omega); omega) rp185 rp186 rp187 rp188 rp189) (by rw [show I179 a0 1 = _ from (g182.cell ta0 (wm_no (by decide +kernel)))]; exact rw90) (rw91.tr rp190) (by omega) (by omega)
  exact lp93 _ _ v75 I64 v29 rfl rfl rfl rfl rfl hS72 c73 (by omega) (by omega) (by rw [show v75.toInt.toNat = 0 by omega]; exact SkR.z (fun r m h hm => rp70 r m h (by rw [c63]; omega))) (by rw [c74, lx58, lx54]; exact Bts.all (by omega) (by omega) (by omega) (by omega)) ((((FrS.rf (R := R0) (sk := a0) (T := T)).po f50 rfl ta0).po f62 rfl ta0).tr rp71) (by omega) (Nat.lt_succ_self _)
def wik_X10_nights : List Nat := [81, 576, 577, 578, 768, 769, 778, 834, 1919, 1983, 2303, 2367, 2431, 2495, 2559, 2623, 2687, 2751, 2815, 2879, 2943, 3007, 3071, 3135, 3199, 3263, 3327, 3391]
def wrk_X10_nights : List Nat := [832, 833]
set_option maxHeartbeats 4000000 in
theorem fk_X10_nights {l : Launch} {T : Nat → Nat} {cn : Nat} {K N : Nat → Nat} {I0 : cz_I} {R0 : cz_R} {L0 : cz_L} {d : Int} (hW0 : Wf T cn K N I0 R0 d) (gX : Nat → Nat → Int) {a0 : Nat} (ta0 : T a0 = 1) {x1 : Int32} {x2 : Int32} {x3 : Int32} (hX : EvQ I0 R0 a0 gX) (hK : SkQ I0 R0 a0 gX) (hD : DjS R0 a0) : ConE l mX10_nights [.ref a0, .int x1, .int x2, .int x3] cn K N I0 R0 L0 (ca_i (fun v cn' K' N' I' R' L' => cn = cn' ∧ K = K' ∧ N = N' ∧ L0 = L' ∧ St T cn K N d wik_X10_nights wrk_X10_nights I0 R0 I' R' ∧ (SkQ I' R0 a0 gX) ∧ True)) := by
  refine ConE.of (by decide +kernel) rfl (Nat.le_of_ble_eq_true rfl) rfl (fun X hX hZ hE => ?_)
  subst hX
  have hS0 : St T cn K N d wik_X10_nights wrk_X10_nights I0 R0 I0 R0 := St.rf0 hW0
  obtain ⟨a1, d2, ta1⟩ := rf1_2 hW0 ta0
  obtain ⟨a3, d4, ta3⟩ := rf1_6 hW0 ta0
  obtain ⟨a5, d6, ta5⟩ := rf1_8 hW0 ta0
  obtain ⟨a7, d8, ta7⟩ := rf1_13 hW0 ta0
  refine tr_aload_n dX10_nights_0 rfl ?_
  obtain ⟨v9, c10⟩ : ∃ v, I0 a0 5 = v := ⟨_, rfl⟩
  have b11 := iv1_5 hW0 ta0 c10
  refine q_getZ dX10_nights_1 fl10_95 (kR1 hS0.1 ta0) c10 ?_
  refine q_if_ne 13 dX10_nights_4 (by decide) (fun h12 => ?_) (fun h12 => ?_)
  · skip
    refine tr_iload_n dX10_nights_13 rfl ?_
    refine q_callSi hE (M' := mX10_isSeed) (as := [_]) dX10_nights_14 lk10_266 inX10_isSeed myX10_isSeed ⟨by decide, by decide⟩ rfl (Nat.le_of_ble_eq_true rfl) rfl rfl (by decide) (by decide) (fk_X10_isSeed hS0.1  ) ?_
    rintro v18 cn' K' N' I13 R14 L15 ⟨rfl, rfl, rfl, rfl, rfl, rfl, h19, p20, p21, -⟩
    refine q_if_eq 41 dX10_nights_17 (by decide) (fun h22 => ?_) (fun h22 => ?_)
    · skip
      refine tr_aload_n dX10_nights_41 rfl ?_
      refine q_iconst dX10_nights_42 (by decide) ?_
      intro v23 h24
      refine q_callVi hE (M' := mX10_refusedTotal) (as := [_]) dX10_nights_43 lk10_178 inX10_refusedTotal seX10_refusedTotal myX10_refusedTotal (by decide) ⟨by decide, by decide⟩ rfl (kR1 hS0.1 ta0) (Nat.le_of_ble_eq_true rfl) rfl rfl (by decide) (by decide) (k_X10_refusedTotal hS0.1 ta0) ?_
      rintro v29 cn' K' N' I25 R26 L27 ⟨rfl, rfl, rfl, rfl, rfl, g28, -⟩
      have hS30 := hS0.tr g28 (by decide +kernel) (by decide +kernel)
      exact tr_iret hZ dX10_nights_46 rfl (by decide) (by decide) ⟨v29, rfl, rfl, rfl, rfl, rfl, hS30, (SkQ.st hK hW0 ta0 g28 (by decide +kernel) (by decide +kernel)), trivial⟩
    · skip
      refine tr_iload_n dX10_nights_20 rfl ?_
      refine q_iconst dX10_nights_21 (by decide) ?_
      intro v31 h32
      refine q_icmp_lt 41 dX10_nights_22 (by decide) (fun h33 => ?_) (fun h33 => ?_)
      · skip
        refine tr_aload_n dX10_nights_41 rfl ?_
        refine q_iconst dX10_nights_42 (by decide) ?_
        intro v34 h35
        refine q_callVi hE (M' := mX10_refusedTotal) (as := [_]) dX10_nights_43 lk10_178 inX10_refusedTotal seX10_refusedTotal myX10_refusedTotal (by decide) ⟨by decide, by decide⟩ rfl (kR1 hS0.1 ta0) (Nat.le_of_ble_eq_true rfl) rfl rfl (by decide) (by decide) (k_X10_refusedTotal hS0.1 ta0) ?_
        rintro v40 cn' K' N' I36 R37 L38 ⟨rfl, rfl, rfl, rfl, rfl, g39, -⟩
        have hS41 := hS0.tr g39 (by decide +kernel) (by decide +kernel)
        exact tr_iret hZ dX10_nights_46 rfl (by decide) (by decide) ⟨v40, rfl, rfl, rfl, rfl, rfl, hS41, (SkQ.st hK hW0 ta0 g39 (by decide +kernel) (by decide +kernel)), trivial⟩
      · skip
        refine tr_iload_n dX10_nights_25 rfl ?_
        refine q_bipush dX10_nights_26 (by decide +kernel) ?_
        intro v42 h43
        refine q_icmp_gt 41 dX10_nights_28 (by decide) (fun h44 => ?_) (fun h44 => ?_)
        · skip
          refine tr_aload_n dX10_nights_41 rfl ?_
          refine q_iconst dX10_nights_42 (by decide) ?_
          intro v45 h46
          refine q_callVi hE (M' := mX10_refusedTotal) (as := [_]) dX10_nights_43 lk10_178 inX10_refusedTotal seX10_refusedTotal myX10_refusedTotal (by decide) ⟨by decide, by decide⟩ rfl (kR1 hS0.1 ta0) (Nat.le_of_ble_eq_true rfl) rfl rfl (by decide) (by decide) (k_X10_refusedTotal hS0.1 ta0) ?_
          rintro v51 cn' K' N' I47 R48 L49 ⟨rfl, rfl, rfl, rfl, rfl, g50, -⟩
          have hS52 := hS0.tr g50 (by decide +kernel) (by decide +kernel)
          exact tr_iret hZ dX10_nights_46 rfl (by decide) (by decide) ⟨v51, rfl, rfl, rfl, rfl, rfl, hS52, (SkQ.st hK hW0 ta0 g50 (by decide +kernel) (by decide +kernel)), trivial⟩
        · skip
          refine tr_iload_n dX10_nights_31 rfl ?_
          refine q_if_lt 41 dX10_nights_32 (by decide) (fun h53 => ?_) (fun h53 => ?_)
          · skip
            refine tr_aload_n dX10_nights_41 rfl ?_
            refine q_iconst dX10_nights_42 (by decide) ?_
            intro v54 h55
            refine q_callVi hE (M' := mX10_refusedTotal) (as := [_]) dX10_nights_43 lk10_178 inX10_refusedTotal seX10_refusedTotal myX10_refusedTotal (by decide) ⟨by decide, by decide⟩ rfl (kR1 hS0.1 ta0) (Nat.le_of_ble_eq_true rfl) rfl rfl (by decide) (by decide) (k_X10_refusedTotal hS0.1 ta0) ?_
            rintro v60 cn' K' N' I56 R57 L58 ⟨rfl, rfl, rfl, rfl, rfl, g59, -⟩
            have hS61 := hS0.tr g59 (by decide +kernel) (by decide +kernel)
            exact tr_iret hZ dX10_nights_46 rfl (by decide) (by decide) ⟨v60, rfl, rfl, rfl, rfl, rfl, hS61, (SkQ.st hK hW0 ta0 g59 (by decide +kernel) (by decide +kernel)), trivial⟩
          · skip
            refine tr_iload_n dX10_nights_35 rfl ?_
            refine q_bipush dX10_nights_36 (by decide +kernel) ?_
            intro v62 h63
            refine q_icmp_le 47 dX10_nights_38 (by decide) (fun h64 => ?_) (fun h64 => ?_)
            · skip
              refine tr_aload_n dX10_nights_47 rfl ?_
              obtain ⟨a65, d66, ta65⟩ := rf1_12 hW0 ta0
              refine tr_getR dX10_nights_48 fl10_62 (kR1 hS0.1 ta0) d66 ?_
              refine q_callVv hE (M' := mX3_clear) (as := []) dX10_nights_51 lk10_99 inX3_clear seX3_clear myX3_clear (by decide) ⟨by decide, by decide⟩ rfl (kR9 hS0.1 ta65) (Nat.le_of_ble_eq_true rfl) rfl rfl (by decide) (by decide) (k_X3_clear_1 hS0.1 ta65) ?_
              rintro cn' K' N' I67 R68 L69 ⟨rfl, rfl, rfl, rfl, rfl, g70, -⟩
              have hS72 := hS0.tr g70 (by decide +kernel) (by decide +kernel)
              refine tr_aload_n dX10_nights_54 rfl ?_
              refine tr_getR dX10_nights_55 fl10_62 (kR1 hS72.1 ta0) d66 ?_
              refine tr_iload_n dX10_nights_58 rfl ?_
              refine q_putI dX10_nights_59 fl10_269 (kR9 hS72.1 ta65) (Or.inl rfl) hS72 ta65 (by show (0 : Int) ≤ x1.toInt ∧ x1.toInt ≤ (65536 : Int); omega) rfl (by decide +kernel) ?_
              intro I73 hS74 e75 f76
              refine q_iconst dX10_nights_62 (by decide) ?_
              intro v77 h78
              refine tr_istore dX10_nights_63 (by decide) (by decide) ?_
              refine q_iconst dX10_nights_65 (by decide) ?_
              intro v79 h80
              refine tr_istore dX10_nights_66 (by decide) (by decide) ?_
              have lp94 : ∀ (fu : Nat) (ls : Nat → Option Value) (v81 : Int32) (v82 : Int32) (I89 : cz_I) (R90 : cz_R), ls 0 = some (.ref a0) → ls 1 = some (.int x1) → ls 2 = some (.int x2) → ls 3 = some (.int x3) → ls 4 = some (.int v81) → ls 5 = some (.int v82) → St T cn K N d wik_X10_nights wrk_X10_nights I0 R0 I89 R90 → 0 ≤ v82.toInt → (SkQ I89 R0 a0 gX) → (-v82.toInt + 2147483647).toNat < fu → Tr X mX10_nights 68 ls [] cn K N I89 R90 L0 0 0 := by
                intro fu
                induction fu with
                | zero => intros; rename_i hz; exact absurd hz (Nat.not_lt_zero _)
                | succ fu ih94 =>
                  intro ls v81 v82 I89 R90 hl83 hl84 hl85 hl86 hl87 hl88 hS91 g92 rw93 hm94
                  refine tr_iload dX10_nights_68 hl88 ?_
                  refine tr_iload_n dX10_nights_70 hl85 ?_
                  refine q_icmp_ge 172 dX10_nights_71 (by decide) (fun h96 => ?_) (fun h96 => ?_)
                  · skip
                    refine tr_aload_n dX10_nights_172 hl83 ?_
                    refine tr_iload dX10_nights_173 hl87 ?_
                    refine q_callVi hE (M' := mX10_answered) (as := [_]) dX10_nights_175 lk10_109 inX10_answered seX10_answered myX10_answered (by decide) ⟨by decide, by decide⟩ rfl (kR1 hS91.1 ta0) (Nat.le_of_ble_eq_true rfl) rfl rfl (by decide) (by decide) (fk_X10_answered hS91.1  ta0) ?_
                    rintro v102 cn' K' N' I97 R98 L99 ⟨rfl, rfl, rfl, rfl, rfl, g100, p103, p104, -⟩
                    have hS105 := hS91.tr g100 (by decide +kernel) (by decide +kernel)
                    obtain ⟨v106, c107⟩ : ∃ v, I97 a0 17 = v := ⟨_, rfl⟩
                    rw [c107] at p104
                    exact tr_iret hZ dX10_nights_178 rfl (by decide) (by decide) ⟨v102, rfl, rfl, rfl, rfl, rfl, hS105, (SkQ.st rw93 hW0 ta0 g100 (by decide +kernel) (by decide +kernel)), trivial⟩
                  · skip
                    refine tr_aload_n dX10_nights_74 hl83 ?_
                    refine tr_getR dX10_nights_75 fl10_62 (kR1 hS91.1 ta0) ((hS91.rcell ta0 (by decide +kernel)).trans d66) ?_
                    refine q_iconst dX10_nights_78 (by decide) ?_
                    intro v108 h109
                    refine q_putI dX10_nights_79 fl10_272 (kR9 hS91.1 ta65) (Or.inl rfl) hS91 ta65 (by show (0 : Int) ≤ v108.toInt ∧ v108.toInt ≤ (6 : Int); omega) rfl (by decide +kernel) ?_
                    intro I110 hS111 e112 f113
                    refine q_iconst dX10_nights_82 (by decide) ?_
                    intro v114 h115
                    refine tr_istore dX10_nights_83 (by decide) (by decide) ?_
                    have lp129 : ∀ (fu : Nat) (ls : Nat → Option Value) (v116 : Int32) (I124 : cz_I) (R125 : cz_R), ls 0 = some (.ref a0) → ls 1 = some (.int x1) → ls 2 = some (.int x2) → ls 3 = some (.int x3) → ls 4 = some (.int v81) → ls 5 = some (.int v82) → ls 6 = some (.int v116) → St T cn K N d wik_X10_nights wrk_X10_nights I0 R0 I124 R125 → 0 ≤ v116.toInt → (SkQ I124 R0 a0 gX) → (-v116.toInt + 2147483647).toNat < fu → Tr X mX10_nights 85 ls [] cn K N I124 R125 L0 0 0 := by
                      intro fu
                      induction fu with
                      | zero => intros; rename_i hz; exact absurd hz (Nat.not_lt_zero _)
                      | succ fu ih129 =>
                        intro ls v116 I124 R125 hl117 hl118 hl119 hl120 hl121 hl122 hl123 hS126 g127 rw128 hm129
                        refine tr_iload dX10_nights_85 hl123 ?_
                        refine tr_iload_n dX10_nights_87 hl120 ?_
                        refine q_icmp_ge 112 dX10_nights_88 (by decide) (fun h131 => ?_) (fun h131 => ?_)
                        · skip
                          refine tr_aload_n dX10_nights_112 hl117 ?_
                          refine tr_getR dX10_nights_113 fl10_65 (kR1 hS126.1 ta0) ((hS126.rcell ta0 (by decide +kernel)).trans d8) ?_
                          refine tr_aload_n dX10_nights_116 hl117 ?_
                          refine tr_getR dX10_nights_117 fl10_16 (kR1 hS126.1 ta0) ((hS126.rcell ta0 (by decide +kernel)).trans d2) ?_
                          refine tr_aload_n dX10_nights_120 hl117 ?_
                          refine tr_getR dX10_nights_121 fl10_62 (kR1 hS126.1 ta0) ((hS126.rcell ta0 (by decide +kernel)).trans d66) ?_
                          refine q_iconst dX10_nights_124 (by decide) ?_
                          intro v132 h133
                          obtain ⟨v134, c135⟩ : ∃ v, I0 a1 3 = v := ⟨_, rfl⟩
                          have b136 := iv2_3 hW0 ta1 c135
                          refine q_callVv hE (M' := mX8_build) (as := [_, _, _]) dX10_nights_125 lk10_237 inX8_build seX8_build myX8_build (by decide) ⟨by decide, by decide⟩ rfl (kR12 hS126.1 ta7) (Nat.le_of_ble_eq_true rfl) rfl rfl (by decide) (by decide) (fk_X8_build_1 hS126.1 (XO I124 R125 a1 a65 gX) ta7 ta1 ta65 (EvX.oth ((EvQ.rc (EvQ.st hX hW0 ta0 hS126 (by decide +kernel)) hW0 ta0 (R13 hS126 (by decide +kernel))) _ _ ((hS126.rcell ta0 (by decide +kernel)).trans d2) ((hS126.rcell ta0 (by decide +kernel)).trans d4)) (by rw [((hS126.cell ta1 (by decide +kernel)).trans c135)]; omega))) ?_
                          rintro cn' K' N' I137 R138 L139 ⟨rfl, rfl, rfl, rfl, rfl, g140, rp143, rp144, -⟩
                          have hS145 := hS126.tr g140 (by decide +kernel) (by decide +kernel)
                          refine tr_aload_n dX10_nights_128 hl117 ?_
                          obtain ⟨a146, d147, ta146⟩ := rf1_14 hW0 ta0
                          refine tr_getR dX10_nights_129 fl10_68 (kR1 hS145.1 ta0) ((hS145.rcell ta0 (by decide +kernel)).trans d147) ?_
                          refine tr_aload_n dX10_nights_132 hl117 ?_
                          refine tr_getR dX10_nights_133 fl10_16 (kR1 hS145.1 ta0) ((hS145.rcell ta0 (by decide +kernel)).trans d2) ?_
                          refine tr_aload_n dX10_nights_136 hl117 ?_
                          refine tr_getR dX10_nights_137 fl10_65 (kR1 hS145.1 ta0) ((hS145.rcell ta0 (by decide +kernel)).trans d8) ?_
                          refine tr_aload_n dX10_nights_140 hl117 ?_
                          refine tr_getR dX10_nights_141 fl10_35 (kR1 hS145.1 ta0) ((hS145.rcell ta0 (by decide +kernel)).trans d4) ?_
                          obtain ⟨v148, c149⟩ : ∃ v, I0 a3 0 = v := ⟨_, rfl⟩
                          refine q_getI dX10_nights_144 fl10_181 (kR8 hS145.1 ta3) ((hS145.cell ta3 (by decide +kernel)).trans c149) ?_
                          refine tr_aload_n dX10_nights_147 hl117 ?_
                          refine q_callVi hE (M' := mX10_allTurners) (as := []) dX10_nights_148 lk10_184 inX10_allTurners seX10_allTurners myX10_allTurners (by decide) ⟨by decide, by decide⟩ rfl (kR1 hS145.1 ta0) (Nat.le_of_ble_eq_true rfl) rfl rfl (by decide) (by decide) (k_X10_allTurners hS145.1 ta0) ?_
                          rintro v154 cn' K' N' I150 R151 L152 ⟨rfl, rfl, rfl, rfl, rfl, rfl, h155, -⟩
                          refine q_callVv hE (M' := mX5_play) (as := [_, _, _, _]) dX10_nights_151 lk10_188 inX5_play seX5_play myX5_play (by decide) ⟨by decide, by decide⟩ rfl (kR13 hS145.1 ta146) (Nat.le_of_ble_eq_true rfl) rfl rfl (by decide) (by decide) (k_X5_play hS145.1 ta146 ta1 ta7) ?_
                          rintro cn' K' N' I156 R157 L158 ⟨rfl, rfl, rfl, rfl, g159, -⟩
                          have hS161 := hS145.tr g159 (by decide +kernel) (by decide +kernel)
                          refine tr_iload dX10_nights_154 hl121 ?_
                          refine tr_aload_n dX10_nights_156 hl117 ?_
                          refine tr_getR dX10_nights_157 fl10_68 (kR1 hS161.1 ta0) ((hS161.rcell ta0 (by decide +kernel)).trans d147) ?_
                          refine q_callVi hE (M' := mX5_sum) (as := []) dX10_nights_160 lk10_192 inX5_sum seX5_sum myX5_sum (by decide) ⟨by decide, by decide⟩ rfl (kR13 hS161.1 ta146) (Nat.le_of_ble_eq_true rfl) rfl rfl (by decide) (by decide) (k_X5_sum hS161.1 ta146) ?_
                          rintro v166 cn' K' N' I162 R163 L164 ⟨rfl, rfl, rfl, rfl, rfl, rfl, -⟩
                          refine q_iadd dX10_nights_163 ?_
                          intro v167
                          refine tr_istore dX10_nights_164 (by decide) (by decide) ?_
                          refine q_iincE dX10_nights_166 hl122 (by decide) (by decide) (by intros; omega) ?_
                          intro v168 h169
                          refine tr_goto 68 dX10_nights_169 (by decide) ?_
                          exact ih94 _ v167 v168 I156 R157 hl117 hl118 hl119 hl120 rfl rfl hS161 (by omega) (SkQ.st (SkQ.fs rw128 hW0 ta0 g140 hD d8 (FrS.rc rp144 (fun k => (R13 hS126 (by decide +kernel) _ k (by rw [ta7]; decide)).symm)) (by decide +kernel) (by decide +kernel)) hW0 ta0 g159 (by decide +kernel) (by decide +kernel)) (by omega)
                        · skip
                          refine tr_aload_n dX10_nights_91 hl117 ?_
                          refine tr_getR dX10_nights_92 fl10_62 (kR1 hS126.1 ta0) ((hS126.rcell ta0 (by decide +kernel)).trans d66) ?_
                          refine tr_aload_n dX10_nights_95 hl117 ?_
                          refine tr_getR dX10_nights_96 fl10_16 (kR1 hS126.1 ta0) ((hS126.rcell ta0 (by decide +kernel)).trans d2) ?_
                          obtain ⟨v170, c171⟩ : ∃ v, I0 a1 0 = v := ⟨_, rfl⟩
                          have b172 := iv2_0 hW0 ta1 c171
                          refine q_getI dX10_nights_99 fl10_146 (kR2 hS126.1 ta1) ((hS126.cell ta1 (by decide +kernel)).trans c171) ?_
                          refine q_callVi hE (M' := mX3_addDrawn) (as := [_]) dX10_nights_102 lk10_275 inX3_addDrawn seX3_addDrawn myX3_addDrawn (by decide) ⟨by decide, by decide⟩ rfl (kR9 hS126.1 ta65) (Nat.le_of_ble_eq_true rfl) rfl rfl (by decide) (by decide) (k_X3_addDrawn hS126.1 ta65 (by omega)) ?_
                          rintro v177 cn' K' N' I173 R174 L175 ⟨rfl, rfl, rfl, rfl, rfl, g176, h178, -⟩
                          have hS179 := hS126.tr g176 (by decide +kernel) (by decide +kernel)
                          refine tr_pop dX10_nights_105 rfl ?_
                          refine q_iincE dX10_nights_106 hl123 (by decide) (by decide) (by intros; omega) ?_
                          intro v180 h181
                          refine tr_goto 85 dX10_nights_109 (by decide) ?_
                          exact ih129 _ v180 I173 R125 hl117 hl118 hl119 hl120 hl121 hl122 rfl hS179 (by omega) (SkQ.st rw128 hW0 ta0 g176 (by decide +kernel) (by decide +kernel)) (by omega)
                    exact lp129 _ _ v114 I110 R90 hl83 hl84 hl85 hl86 hl87 hl88 rfl hS111 (by omega) (SkQ.put rw93 hW0 ta0 f113 ta65 (by decide) (fun q => by have z := ta0; rw [q.1, ta65] at z; exact absurd z (by decide))) (Nat.lt_succ_self _)
              exact lp94 _ _ v77 v79 I73 R0 rfl rfl rfl rfl rfl rfl hS74 (by omega) (SkQ.put (SkQ.st hK hW0 ta0 g70 (by decide +kernel) (by decide +kernel)) hW0 ta0 f76 ta65 (by decide) (fun q => by have z := ta0; rw [q.1, ta65] at z; exact absurd z (by decide))) (Nat.lt_succ_self _)
            · skip
              refine tr_aload_n dX10_nights_41 rfl ?_
              refine q_iconst dX10_nights_42 (by decide) ?_
              intro v182 h183
              refine q_callVi hE (M' := mX10_refusedTotal) (as := [_]) dX10_nights_43 lk10_178 inX10_refusedTotal seX10_refusedTotal myX10_refusedTotal (by decide) ⟨by decide, by decide⟩ rfl (kR1 hS0.1 ta0) (Nat.le_of_ble_eq_true rfl) rfl rfl (by decide) (by decide) (k_X10_refusedTotal hS0.1 ta0) ?_
              rintro v188 cn' K' N' I184 R185 L186 ⟨rfl, rfl, rfl, rfl, rfl, g187, -⟩
              have hS189 := hS0.tr g187 (by decide +kernel) (by decide +kernel)
              exact tr_iret hZ dX10_nights_46 rfl (by decide) (by decide) ⟨v188, rfl, rfl, rfl, rfl, rfl, hS189, (SkQ.st hK hW0 ta0 g187 (by decide +kernel) (by decide +kernel)), trivial⟩
  · skip
    refine tr_aload_n dX10_nights_7 rfl ?_
    refine q_iconst dX10_nights_8 (by decide) ?_
    intro v190 h191
    refine q_callVi hE (M' := mX10_refusedTotal) (as := [_]) dX10_nights_9 lk10_178 inX10_refusedTotal seX10_refusedTotal myX10_refusedTotal (by decide) ⟨by decide, by decide⟩ rfl (kR1 hS0.1 ta0) (Nat.le_of_ble_eq_true rfl) rfl rfl (by decide) (by decide) (k_X10_refusedTotal hS0.1 ta0) ?_
    rintro v196 cn' K' N' I192 R193 L194 ⟨rfl, rfl, rfl, rfl, rfl, g195, -⟩
    have hS197 := hS0.tr g195 (by decide +kernel) (by decide +kernel)
    exact tr_iret hZ dX10_nights_12 rfl (by decide) (by decide) ⟨v196, rfl, rfl, rfl, rfl, rfl, hS197, (SkQ.st hK hW0 ta0 g195 (by decide +kernel) (by decide +kernel)), trivial⟩

