def wik_X5_judge : List Nat := [2943, 3007, 3071, 3135]
def wrk_X5_judge : List Nat := []
set_option maxHeartbeats 4000000 in
theorem fk_X5_judge {l : Launch} {T : Nat → Nat} {cn : Nat} {K N : Nat → Nat} {I0 : cz_I} {R0 : cz_R} {L0 : cz_L} {d : Int} (hW0 : Wf T cn K N I0 R0 d) (gZ : cz_N) (gb : Nat → Int) (gu : Nat → Int) {a0 : Nat} (ta0 : T a0 = 13) {x1 : Int32} (hx1 : 0 ≤ x1.toInt ∧ x1.toInt ≤ 239) {x2 : Int32} (hx2 : 0 ≤ x2.toInt ∧ x2.toInt ≤ 255) {x3 : Int32} (hx3 : 0 ≤ x3.toInt ∧ x3.toInt ≤ 255) (hP : NgP I0 R0 a0 gZ) (hG : GdN gZ) (hB : B8 x2 (fun k => if (k : Int) < nzc gZ 3 ∧ ¬ gb k = -2 then 1 else 0)) (hV : B8 x3 (fun k => if (k : Int) < nzc gZ 3 then gu k else 0)) (pre0 : x1.toInt < (nzc gZ 0)) : ConE l mX5_judge [.ref a0, .int x1, .int x2, .int x3] cn K N I0 R0 L0 (ca_v (fun cn' K' N' I' R' L' => cn = cn' ∧ K = K' ∧ N = N' ∧ R0 = R' ∧ L0 = L' ∧ St T cn K N d wik_X5_judge wrk_X5_judge I0 R0 I' R0 ∧ (∀ r, R0 a0 4 = some r → ∀ k : Nat, (k : Int) < nzc gZ 3 → RwD I0 I' r k ((fun k => if ¬ gb k = -2 ∧ nzC gZ (nzT gZ 35 k) x1.toInt = 1 then 1 else 0) k)) ∧ (∀ r, R0 a0 5 = some r → ∀ k : Nat, (k : Int) < nzc gZ 3 → RwD I0 I' r k ((fun k => if ¬ gb k = -2 ∧ ¬ nzC gZ (nzT gZ 35 k) x1.toInt = 1 then 1 else 0) k)) ∧ (∀ r, R0 a0 6 = some r → ∀ k : Nat, (k : Int) < nzc gZ 3 → RwD I0 I' r k ((fun k => if gb k = -2 ∧ nzC gZ (nzT gZ 35 k) x1.toInt = 1 then 1 else 0) k)) ∧ (∀ r, R0 a0 7 = some r → ∀ k : Nat, (k : Int) < nzc gZ 3 → RwD I0 I' r k ((fun k => if gu k = 1 ∧ nzK gZ (nzT gZ 35 k) x1.toInt = 1 then 1 else 0) k)) ∧ (FrN R0 a0 T I0 I') ∧ True)) := by
  refine ConE.of (by decide +kernel) rfl (Nat.le_of_ble_eq_true rfl) rfl (fun X hX hZ hE => ?_)
  subst hX
  have hS0 : St T cn K N d wik_X5_judge wrk_X5_judge I0 R0 I0 R0 := St.rf0 hW0
  have p1 := pre0
  obtain ⟨a2, d3, ta2⟩ := rf13_0 hW0 ta0
  obtain ⟨v4, c5⟩ : ∃ v, I0 a2 5 = v := ⟨_, rfl⟩
  have b6 := iv2_5 hW0 ta2 c5
  obtain ⟨a7, d8, ta7⟩ := rf13_1 hW0 ta0
  obtain ⟨a9, d10, ta9⟩ := rf2_2 hW0 ta2
  obtain ⟨a11, d12, ta11⟩ := rf2_6 hW0 ta2
  obtain ⟨a13, d14, ta13⟩ := rf2_8 hW0 ta2
  obtain ⟨a15, d16, ta15⟩ := rf2_10 hW0 ta2
  obtain ⟨a17, d18, ta17⟩ := rf2_12 hW0 ta2
  obtain ⟨a19, d20, ta19⟩ := rf12_2 hW0 ta7
  obtain ⟨a21, d22, ta21⟩ := rf12_3 hW0 ta7
  obtain ⟨a23, d24, ta23⟩ := rf12_5 hW0 ta7
  obtain ⟨a25, d26, ta25⟩ := rf12_8 hW0 ta7
  obtain ⟨a27, d28, ta27⟩ := rf12_9 hW0 ta7
  obtain ⟨a29, d30, ta29⟩ := rf12_11 hW0 ta7
  obtain ⟨a31, d32, ta31⟩ := rf13_3 hW0 ta0
  obtain ⟨a33, d34, ta33⟩ := rf13_4 hW0 ta0
  obtain ⟨a35, d36, ta35⟩ := rf13_5 hW0 ta0
  obtain ⟨a37, d38, ta37⟩ := rf13_6 hW0 ta0
  obtain ⟨a39, d40, ta39⟩ := rf13_7 hW0 ta0
  obtain ⟨a41, d42, ta41⟩ := rf13_8 hW0 ta0
  obtain ⟨a43, d44, ta43⟩ := rf13_9 hW0 ta0
  obtain ⟨a45, d46, ta45⟩ := rf13_10 hW0 ta0
  obtain ⟨a47, d48, ta47⟩ := rf13_11 hW0 ta0
  obtain ⟨v49, c50⟩ : ∃ v, I0 a2 0 = v := ⟨_, rfl⟩
  have b51 := iv2_0 hW0 ta2 c50
  obtain ⟨v52, c53⟩ : ∃ v, I0 a2 1 = v := ⟨_, rfl⟩
  have b54 := iv2_1 hW0 ta2 c53
  obtain ⟨v55, c56⟩ : ∃ v, I0 a2 7 = v := ⟨_, rfl⟩
  obtain ⟨v57, c58⟩ : ∃ v, I0 a2 9 = v := ⟨_, rfl⟩
  have b59 := iv2_9 hW0 ta2 c58
  obtain ⟨v60, c61⟩ : ∃ v, I0 a2 11 = v := ⟨_, rfl⟩
  have b62 := iv2_11 hW0 ta2 c61
  obtain ⟨v63, c64⟩ : ∃ v, I0 a0 2 = v := ⟨_, rfl⟩
  have hA65 := hP _ _ d3 d8
  have hc66 := hA65.1.ct
  rw [c50, c53, c5, c58, c61, c56] at hc66
  have hc66g := hG.cs
  have hc66m := hA65.2.2
  rw [c64] at hc66m
  have hc66n := hG.ms
  refine tr_aload_n dX5_judge_0 rfl ?_
  refine tr_getR dX5_judge_1 fl5_43 (kR13 hS0.1 ta0) d8 ?_
  refine tr_iload_n dX5_judge_4 rfl ?_
  refine q_callVi hE (M' := mX8_crackingHuts) (as := [_]) dX5_judge_5 lk5_121 inX8_crackingHuts seX8_crackingHuts myX8_crackingHuts (by decide) ⟨by decide, by decide⟩ rfl (kR12 hS0.1 ta7) (Nat.le_of_ble_eq_true rfl) rfl rfl (by decide) (by decide) (fk_X8_crackingHuts hS0.1 (gZ) ta7 (by omega) hA65.2.1 (by first | done | with_reducible assumption | omega)) ?_
  rintro v72 cn' K' N' I67 R68 L69 ⟨rfl, rfl, rfl, rfl, rfl, rfl, rp73, -⟩
  have hk74 := And.intro rp73.1 rp73.2.1
  refine tr_istore dX5_judge_8 (by decide) (by decide) ?_
  refine q_iconst dX5_judge_10 (by decide) ?_
  intro v75 h76
  refine tr_istore dX5_judge_11 (by decide) (by decide) ?_
  have lp93 : ∀ (fu : Nat) (ls : Nat → Option Value) (v77 : Int32) (I84 : cz_I), ls 0 = some (.ref a0) → ls 1 = some (.int x1) → ls 2 = some (.int x2) → ls 3 = some (.int x3) → ls 4 = some (.int v72) → ls 5 = some (.int v77) → St T cn K N d wik_X5_judge wrk_X5_judge I0 R0 I84 R0 → 0 ≤ v77.toInt → v77.toInt ≤ v4.toInt → (∀ u : Nat, (u : Int) < nzc gZ 3 → RwD I0 I84 a33 u (if (u : Int) < v77.toInt then (fun k => if ¬ gb k = -2 ∧ nzC gZ (nzT gZ 35 k) x1.toInt = 1 then 1 else 0) u else 0)) → (∀ u : Nat, (u : Int) < nzc gZ 3 → RwD I0 I84 a35 u (if (u : Int) < v77.toInt then (fun k => if ¬ gb k = -2 ∧ ¬ nzC gZ (nzT gZ 35 k) x1.toInt = 1 then 1 else 0) u else 0)) → (∀ u : Nat, (u : Int) < nzc gZ 3 → RwD I0 I84 a37 u (if (u : Int) < v77.toInt then (fun k => if gb k = -2 ∧ nzC gZ (nzT gZ 35 k) x1.toInt = 1 then 1 else 0) u else 0)) → (∀ u : Nat, (u : Int) < nzc gZ 3 → RwD I0 I84 a39 u (if (u : Int) < v77.toInt then (fun k => if gu k = 1 ∧ nzK gZ (nzT gZ 35 k) x1.toInt = 1 then 1 else 0) u else 0)) → (FrN R0 a0 T I0 I84) → (-v77.toInt + 2147483647).toNat < fu → Tr X mX5_judge 13 ls [] cn K N I84 R0 L0 0 0 := by
    intro fu
    induction fu with
    | zero => intros; rename_i hz; exact absurd hz (Nat.not_lt_zero _)
    | succ fu ih93 =>
      intro ls v77 I84 hl78 hl79 hl80 hl81 hl82 hl83 hS85 g86 g87 rw88 rw89 rw90 rw91 rw92 hm93
      refine tr_iload dX5_judge_13 hl83 ?_
      refine tr_aload_n dX5_judge_15 hl78 ?_
      refine tr_getR dX5_judge_16 fl5_39 (kR13 hS85.1 ta0) d3 ?_
      refine q_getI dX5_judge_19 fl5_107 (kR2 hS85.1 ta2) ((hS85.cell ta2 (by decide +kernel)).trans c5) ?_
      refine q_icmp_ge 140 dX5_judge_22 (by decide) (fun h95 => ?_) (fun h95 => ?_)
      · skip
        exact tr_vret hZ dX5_judge_140 rfl (by decide) (by decide) ⟨rfl, rfl, rfl, rfl, rfl, rfl, hS85, (fun r hr => by obtain rfl := Option.some.inj (d34.symm.trans hr); exact fun u hu => (rw88 u hu).cg (by rw [if_pos (show (u : Int) < v77.toInt by omega)])), (fun r hr => by obtain rfl := Option.some.inj (d36.symm.trans hr); exact fun u hu => (rw89 u hu).cg (by rw [if_pos (show (u : Int) < v77.toInt by omega)])), (fun r hr => by obtain rfl := Option.some.inj (d38.symm.trans hr); exact fun u hu => (rw90 u hu).cg (by rw [if_pos (show (u : Int) < v77.toInt by omega)])), (fun r hr => by obtain rfl := Option.some.inj (d40.symm.trans hr); exact fun u hu => (rw91 u hu).cg (by rw [if_pos (show (u : Int) < v77.toInt by omega)])), rw92, trivial⟩
      · skip
        refine tr_aload_n dX5_judge_25 hl78 ?_
        refine tr_getR dX5_judge_26 fl5_39 (kR13 hS85.1 ta0) d3 ?_
        refine tr_getR dX5_judge_29 fl5_112 (kR2 hS85.1 ta2) d12 ?_
        refine tr_iload dX5_judge_32 hl83 ?_
        refine q_iald dX5_judge_34 (kR20 hS85.1 ta11) (ti_in (nR20 hS85.1 ta11) (by omega) (by omega)) ?_
        intro v96 c97
        have hh98 : v96.toInt = nzT gZ 35 v77.toInt.toNat := by rw [← show I0 a11 v77.toInt.toNat = v96 from (hS85.cell ta11 (wm_no (by decide +kernel))).symm.trans c97]; exact hA65.1.hu d12 (by omega)
        have hh98g := hG.ch (k := v77.toInt.toNat) (by omega)
        refine tr_istore dX5_judge_35 (by decide) (by decide) ?_
        refine tr_aload_n dX5_judge_37 hl78 ?_
        refine tr_getR dX5_judge_38 fl5_43 (kR13 hS85.1 ta0) d8 ?_
        refine tr_getR dX5_judge_41 fl5_115 (kR12 hS85.1 ta7) d26 ?_
        refine tr_iload_n dX5_judge_44 hl79 ?_
        refine q_iald dX5_judge_45 (kR41 hS85.1 ta25) (ti_in (nR41 hS85.1 ta25) (by omega) (by omega)) ?_
        intro v99 c100
        have hx101 := hA65.2.1.2.1 _ d26 x1.toInt.toNat (by omega)
        rw [show I0 a25 x1.toInt.toNat = v99 from (hS85.cell ta25 (wm_no (by decide +kernel))).symm.trans c100, show ((x1.toInt.toNat : Nat) : Int) = x1.toInt by omega] at hx101
        have hx101r := And.intro hx101.1 hx101.2.1
        refine tr_iload dX5_judge_46 rfl ?_
        refine q_callSNi hE (M' := mX10_bit) (as := [_, _]) dX5_judge_48 lk5_84 inX10_bit myX10_bit ⟨by decide, by decide⟩ rfl (Nat.le_of_ble_eq_true rfl) rfl rfl (by decide) (by decide) (f_X10_bitX   (by omega) (by omega)) ?_
        rintro v107 cn' K' N' I102 R103 L104 ⟨rfl, rfl, rfl, rfl, rfl, rfl, p108, -⟩
        have btv107 := bt_01 v99.toInt v96.toInt
        have hy109 : v107.toInt = nzC gZ (nzT gZ 35 v77.toInt.toNat) x1.toInt := by have z : bt _ _ = nzC gZ ((v96.toInt.toNat : Nat) : Int) x1.toInt := hx101.2.2 v96.toInt.toNat (by omega); rw [show ((v96.toInt.toNat : Nat) : Int) = v96.toInt by omega] at z; rw [← hh98]; omega
        refine tr_istore dX5_judge_51 (by decide) (by decide) ?_
        refine tr_iload_n dX5_judge_53 hl80 ?_
        refine tr_iload dX5_judge_54 hl83 ?_
        refine q_callSNi hE (M' := mX10_bit) (as := [_, _]) dX5_judge_56 lk5_84 inX10_bit myX10_bit ⟨by decide, by decide⟩ rfl (Nat.le_of_ble_eq_true rfl) rfl rfl (by decide) (by decide) (f_X10_bitX   (by omega) (by omega)) ?_
        rintro v115 cn' K' N' I110 R111 L112 ⟨rfl, rfl, rfl, rfl, rfl, rfl, p116, -⟩
        have btv115 := bt_01 x2.toInt v77.toInt
        have hy117 : (gb v77.toInt.toNat = -2 ∧ v115.toInt = 0) ∨ (¬ gb v77.toInt.toNat = -2 ∧ v115.toInt = 1) := by have z : bt _ _ = (if _ then _ else _) := hB.2.2 v77.toInt.toNat (by omega); rw [show ((v77.toInt.toNat : Nat) : Int) = v77.toInt by omega] at z; by_cases y : gb v77.toInt.toNat = -2; (rw [if_neg (fun w => w.2 y)] at z; exact Or.inl ⟨y, by omega⟩); (rw [if_pos ⟨by omega, y⟩] at z; exact Or.inr ⟨y, by omega⟩)
        refine tr_istore dX5_judge_59 (by decide) (by decide) ?_
        refine tr_aload_n dX5_judge_61 hl78 ?_
        refine tr_getR dX5_judge_62 fl5_15 (kR13 hS85.1 ta0) d34 ?_
        refine tr_iload dX5_judge_65 hl83 ?_
        refine tr_dup2 dX5_judge_67 rfl rfl ?_
        refine q_iald dX5_judge_68 (kR45 hS85.1 ta33) (ti_in (nR45 hS85.1 ta33) (by omega) (by omega)) ?_
        intro v118 c119
        refine tr_iload dX5_judge_69 rfl ?_
        refine tr_iload dX5_judge_71 rfl ?_
        refine tr_iand dX5_judge_73 ?_
        obtain ⟨v120, lx121⟩ : ∃ z, z = v115 &&& v107 := ⟨_, rfl⟩
        rw [← lx121]
        have ha122 : v120.toInt = if v115.toInt = 1 ∧ v107.toInt = 1 then 1 else 0 := by rw [lx121]; exact an_01 (by omega) (by omega)
        refine tr_iadd dX5_judge_74 ?_
        obtain ⟨v123, lx124⟩ : ∃ z, z = v118 + v120 := ⟨_, rfl⟩
        rw [← lx124]
        refine q_iast dX5_judge_75 (kR45 hS85.1 ta33) (ti_in (nR45 hS85.1 ta33) (by omega) (by omega)) hS85 ta33 (iokF rfl) rfl (by rfl) ?_
        intro I125 hS126 e128 f127
        refine tr_aload_n dX5_judge_76 hl78 ?_
        refine tr_getR dX5_judge_77 fl5_18 (kR13 hS126.1 ta0) d36 ?_
        refine tr_iload dX5_judge_80 hl83 ?_
        refine tr_dup2 dX5_judge_82 rfl rfl ?_
        refine q_iald dX5_judge_83 (kR46 hS126.1 ta35) (ti_in (nR46 hS126.1 ta35) (by omega) (by omega)) ?_
        intro v129 c130
        refine tr_iload dX5_judge_84 rfl ?_
        refine tr_iload dX5_judge_86 rfl ?_
        refine q_iconst dX5_judge_88 (by decide) ?_
        intro v131 h132
        refine tr_ixor dX5_judge_89 ?_
        obtain ⟨v133, lx134⟩ : ∃ z, z = v107 ^^^ v131 := ⟨_, rfl⟩
        rw [← lx134]
        refine tr_iand dX5_judge_90 ?_
        obtain ⟨v135, lx136⟩ : ∃ z, z = v115 &&& v133 := ⟨_, rfl⟩
        rw [← lx136]
        have ha137 : v135.toInt = if v115.toInt = 1 ∧ v107.toInt = 0 then 1 else 0 := by rw [lx136, lx134]; exact ann_01 (by omega) (by omega) (by omega)
        refine tr_iadd dX5_judge_91 ?_
        obtain ⟨v138, lx139⟩ : ∃ z, z = v129 + v135 := ⟨_, rfl⟩
        rw [← lx139]
        refine q_iast dX5_judge_92 (kR46 hS126.1 ta35) (ti_in (nR46 hS126.1 ta35) (by omega) (by omega)) hS126 ta35 (iokF rfl) rfl (by rfl) ?_
        intro I140 hS141 e143 f142
        refine tr_aload_n dX5_judge_93 hl78 ?_
        refine tr_getR dX5_judge_94 fl5_21 (kR13 hS141.1 ta0) d38 ?_
        refine tr_iload dX5_judge_97 hl83 ?_
        refine tr_dup2 dX5_judge_99 rfl rfl ?_
        refine q_iald dX5_judge_100 (kR47 hS141.1 ta37) (ti_in (nR47 hS141.1 ta37) (by omega) (by omega)) ?_
        intro v144 c145
        refine tr_iload dX5_judge_101 rfl ?_
        refine tr_iload dX5_judge_103 rfl ?_
        refine q_iconst dX5_judge_105 (by decide) ?_
        intro v146 h147
        refine tr_ixor dX5_judge_106 ?_
        obtain ⟨v148, lx149⟩ : ∃ z, z = v115 ^^^ v146 := ⟨_, rfl⟩
        rw [← lx149]
        refine tr_iand dX5_judge_107 ?_
        obtain ⟨v150, lx151⟩ : ∃ z, z = v107 &&& v148 := ⟨_, rfl⟩
        rw [← lx151]
        have ha152 : v150.toInt = if v107.toInt = 1 ∧ v115.toInt = 0 then 1 else 0 := by rw [lx151, lx149]; exact ann_01 (by omega) (by omega) (by omega)
        refine tr_iadd dX5_judge_108 ?_
        obtain ⟨v153, lx154⟩ : ∃ z, z = v144 + v150 := ⟨_, rfl⟩
        rw [← lx154]
        refine q_iast dX5_judge_109 (kR47 hS141.1 ta37) (ti_in (nR47 hS141.1 ta37) (by omega) (by omega)) hS141 ta37 (iokF rfl) rfl (by rfl) ?_
        intro I155 hS156 e158 f157
        refine tr_aload_n dX5_judge_110 hl78 ?_
        refine tr_getR dX5_judge_111 fl5_24 (kR13 hS156.1 ta0) d40 ?_
        refine tr_iload dX5_judge_114 hl83 ?_
        refine tr_dup2 dX5_judge_116 rfl rfl ?_
        refine q_iald dX5_judge_117 (kR48 hS156.1 ta39) (ti_in (nR48 hS156.1 ta39) (by omega) (by omega)) ?_
        intro v159 c160
        refine tr_iload_n dX5_judge_118 hl81 ?_
        refine tr_iload dX5_judge_119 hl83 ?_
        refine q_callSNi hE (M' := mX10_bit) (as := [_, _]) dX5_judge_121 lk5_84 inX10_bit myX10_bit ⟨by decide, by decide⟩ rfl (Nat.le_of_ble_eq_true rfl) rfl rfl (by decide) (by decide) (f_X10_bitX   (by omega) (by omega)) ?_
        rintro v166 cn' K' N' I161 R162 L163 ⟨rfl, rfl, rfl, rfl, rfl, rfl, p167, -⟩
        have btv166 := bt_01 x3.toInt v77.toInt
        have hy168 : v166.toInt = gu v77.toInt.toNat := by have z : bt _ _ = (if _ then _ else _) := hV.2.2 v77.toInt.toNat (by omega); rw [show ((v77.toInt.toNat : Nat) : Int) = v77.toInt by omega, if_pos (by omega)] at z; omega
        refine tr_iload dX5_judge_124 hl82 ?_
        refine tr_iload dX5_judge_126 rfl ?_
        refine q_callSNi hE (M' := mX10_bit) (as := [_, _]) dX5_judge_128 lk5_84 inX10_bit myX10_bit ⟨by decide, by decide⟩ rfl (Nat.le_of_ble_eq_true rfl) rfl rfl (by decide) (by decide) (f_X10_bitX   (by omega) (by omega)) ?_
        rintro v174 cn' K' N' I169 R170 L171 ⟨rfl, rfl, rfl, rfl, rfl, rfl, p175, -⟩
        have btv174 := bt_01 v72.toInt v96.toInt
        have hy176 : v174.toInt = nzK gZ (nzT gZ 35 v77.toInt.toNat) x1.toInt := by have z := rp73.2.2 v96.toInt.toNat (by omega); rw [show ((v96.toInt.toNat : Nat) : Int) = v96.toInt by omega] at z; rw [← hh98]; omega
        refine tr_iand dX5_judge_131 ?_
        obtain ⟨v177, lx178⟩ : ∃ z, z = v166 &&& v174 := ⟨_, rfl⟩
        rw [← lx178]
        have ha179 : v177.toInt = if v166.toInt = 1 ∧ v174.toInt = 1 then 1 else 0 := by rw [lx178]; exact an_01 (by omega) (by omega)
        refine tr_iadd dX5_judge_132 ?_
        obtain ⟨v180, lx181⟩ : ∃ z, z = v159 + v177 := ⟨_, rfl⟩
        rw [← lx181]
        refine q_iast dX5_judge_133 (kR48 hS156.1 ta39) (ti_in (nR48 hS156.1 ta39) (by omega) (by omega)) hS156 ta39 (iokF rfl) rfl (by rfl) ?_
        intro I182 hS183 e185 f184
        refine q_iincE dX5_judge_134 hl83 (by decide) (by decide) (by intros; omega) ?_
        intro v186 h187
        refine tr_goto 13 dX5_judge_137 (by decide) ?_
        exact ih93 _ v186 I182 hl78 hl79 hl80 hl81 hl82 rfl hS183 (by omega) (by omega) (TA3y (g := (fun k => if ¬ gb k = -2 ∧ nzC gZ (nzT gZ 35 k) x1.toInt = 1 then 1 else 0)) (J := I84) rw88 (by omega) (by omega) (by omega) ⟨RwD.one c119 lx124 (Eq.trans ((f184 _ _ (fun q => by have z := ta33; rw [q.1, ta39] at z; exact absurd z (by decide))).trans ((f157 _ _ (fun q => by have z := ta33; rw [q.1, ta37] at z; exact absurd z (by decide))).trans (f142 _ _ (fun q => by have z := ta33; rw [q.1, ta35] at z; exact absurd z (by decide))))) e128) (by show v120.toInt = if ¬ gb v77.toInt.toNat = -2 ∧ nzC gZ (nzT gZ 35 v77.toInt.toNat) x1.toInt = 1 then 1 else 0; rw [ha122]; split <;> split <;> omega), fun j hj => ((f184 _ _ (fun q => by have z := ta33; rw [q.1, ta39] at z; exact absurd z (by decide))).trans ((f157 _ _ (fun q => by have z := ta33; rw [q.1, ta37] at z; exact absurd z (by decide))).trans ((f142 _ _ (fun q => by have z := ta33; rw [q.1, ta35] at z; exact absurd z (by decide))).trans (f127 _ _ (fun q => hj q.2)))))⟩ rfl (b8of if01)) (TA3y (g := (fun k => if ¬ gb k = -2 ∧ ¬ nzC gZ (nzT gZ 35 k) x1.toInt = 1 then 1 else 0)) (J := I125) (fun u hu => RwD.kp (rw89 u hu) (f127 _ _ (fun q => by have z := ta35; rw [q.1, ta33] at z; exact absurd z (by decide)))) (by omega) (by omega) (by omega) ⟨RwD.one c130 lx139 (Eq.trans ((f184 _ _ (fun q => by have z := ta35; rw [q.1, ta39] at z; exact absurd z (by decide))).trans (f157 _ _ (fun q => by have z := ta35; rw [q.1, ta37] at z; exact absurd z (by decide)))) e143) (by show v135.toInt = if ¬ gb v77.toInt.toNat = -2 ∧ ¬ nzC gZ (nzT gZ 35 v77.toInt.toNat) x1.toInt = 1 then 1 else 0; rw [ha137]; split <;> split <;> omega), fun j hj => ((f184 _ _ (fun q => by have z := ta35; rw [q.1, ta39] at z; exact absurd z (by decide))).trans ((f157 _ _ (fun q => by have z := ta35; rw [q.1, ta37] at z; exact absurd z (by decide))).trans (f142 _ _ (fun q => hj q.2))))⟩ rfl (b8of if01)) (TA3y (g := (fun k => if gb k = -2 ∧ nzC gZ (nzT gZ 35 k) x1.toInt = 1 then 1 else 0)) (J := I140) (fun u hu => RwD.kp (rw90 u hu) ((f142 _ _ (fun q => by have z := ta37; rw [q.1, ta35] at z; exact absurd z (by decide))).trans (f127 _ _ (fun q => by have z := ta37; rw [q.1, ta33] at z; exact absurd z (by decide))))) (by omega) (by omega) (by omega) ⟨RwD.one c145 lx154 (Eq.trans (f184 _ _ (fun q => by have z := ta37; rw [q.1, ta39] at z; exact absurd z (by decide))) e158) (by show v150.toInt = if gb v77.toInt.toNat = -2 ∧ nzC gZ (nzT gZ 35 v77.toInt.toNat) x1.toInt = 1 then 1 else 0; rw [ha152]; split <;> split <;> omega), fun j hj => ((f184 _ _ (fun q => by have z := ta37; rw [q.1, ta39] at z; exact absurd z (by decide))).trans (f157 _ _ (fun q => hj q.2)))⟩ rfl (b8of if01)) (TA3y (g := (fun k => if gu k = 1 ∧ nzK gZ (nzT gZ 35 k) x1.toInt = 1 then 1 else 0)) (J := I155) (fun u hu => RwD.kp (rw91 u hu) ((f157 _ _ (fun q => by have z := ta39; rw [q.1, ta37] at z; exact absurd z (by decide))).trans ((f142 _ _ (fun q => by have z := ta39; rw [q.1, ta35] at z; exact absurd z (by decide))).trans (f127 _ _ (fun q => by have z := ta39; rw [q.1, ta33] at z; exact absurd z (by decide)))))) (by omega) (by omega) (by omega) ⟨RwD.one c160 lx181 e185 (by show v177.toInt = if gu v77.toInt.toNat = 1 ∧ nzK gZ (nzT gZ 35 v77.toInt.toNat) x1.toInt = 1 then 1 else 0; rw [ha179]; split <;> split <;> omega), fun j hj => (f184 _ _ (fun q => hj q.2))⟩ rfl (b8of if01)) ((((rw92.pu f127 (s := 4) (by omega) (by omega) d34 ta33 (by decide)).pu f142 (s := 5) (by omega) (by omega) d36 ta35 (by decide)).pu f157 (s := 6) (by omega) (by omega) d38 ta37 (by decide)).pu f184 (s := 7) (by omega) (by omega) d40 ta39 (by decide)) (by omega)
  exact lp93 _ _ v75 I0 rfl rfl rfl rfl rfl rfl hS0 (by omega) (by omega) (fun u _ => RwD.z rfl (if_neg (by omega))) (fun u _ => RwD.z rfl (if_neg (by omega))) (fun u _ => RwD.z rfl (if_neg (by omega))) (fun u _ => RwD.z rfl (if_neg (by omega))) (FrN.rf (R := R0) (n := a0) (T := T)) (Nat.lt_succ_self _)
def wik_X5_play : List Nat := [834, 2879, 2943, 3007, 3071, 3135, 3199, 3263, 3327, 3391]
def wrk_X5_play : List Nat := [832, 833]
set_option maxHeartbeats 4000000 in
theorem fk_X5_play {l : Launch} {T : Nat → Nat} {cn : Nat} {K N : Nat → Nat} {I0 : cz_I} {R0 : cz_R} {L0 : cz_L} {d : Int} (hW0 : Wf T cn K N I0 R0 d) (gZ : cz_N) {a0 : Nat} (ta0 : T a0 = 13) {a1 : Nat} (ta1 : T a1 = 2) {a2 : Nat} (ta2 : T a2 = 12) {x3 : Int32} (hx3 : 0 ≤ x3.toInt ∧ x3.toInt ≤ 63) {x4 : Int32} (hx4 : 0 ≤ x4.toInt ∧ x4.toInt ≤ 31) (hA : CVa I0 R0 a1 (nzc gZ) (nzT gZ)) (hS : SkZ I0 R0 a2 gZ) (hG : GdN gZ) (pre0 : x3.toInt = (nzM gZ)) (pre1 : x4.toInt = (nzW gZ)) : ConE l mX5_play [.ref a0, .ref a1, .ref a2, .int x3, .int x4] cn K N I0 R0 L0 (ca_v (fun cn' K' N' I' R' L' => cn = cn' ∧ K = K' ∧ N = N' ∧ L0 = L' ∧ St T cn K N d wik_X5_play wrk_X5_play I0 R0 I' R' ∧ (R' a0 0 = some a1) ∧ (R' a0 1 = some a2) ∧ (I' a0 2 = x3) ∧ (NgR I' R0 a0 gZ (nzc gZ 0).toNat) ∧ (FrN R0 a0 T I0 I') ∧ True)) := by
  refine ConE.of (by decide +kernel) rfl (Nat.le_of_ble_eq_true rfl) rfl (fun X hX hZ hE => ?_)
  subst hX
  have hS0 : St T cn K N d wik_X5_play wrk_X5_play I0 R0 I0 R0 := St.rf0 hW0
  have p1 := pre0
  have p2 := pre1
  obtain ⟨a3, d4, ta3⟩ := rf2_2 hW0 ta1
  obtain ⟨a5, d6, ta5⟩ := rf2_6 hW0 ta1
  obtain ⟨a7, d8, ta7⟩ := rf2_8 hW0 ta1
  obtain ⟨a9, d10, ta9⟩ := rf2_10 hW0 ta1
  obtain ⟨a11, d12, ta11⟩ := rf2_12 hW0 ta1
  obtain ⟨a13, d14, ta13⟩ := rf12_2 hW0 ta2
  obtain ⟨a15, d16, ta15⟩ := rf12_3 hW0 ta2
  obtain ⟨a17, d18, ta17⟩ := rf12_5 hW0 ta2
  obtain ⟨a19, d20, ta19⟩ := rf12_8 hW0 ta2
  obtain ⟨a21, d22, ta21⟩ := rf12_9 hW0 ta2
  obtain ⟨a23, d24, ta23⟩ := rf12_11 hW0 ta2
  obtain ⟨a25, d26, ta25⟩ := rf13_3 hW0 ta0
  obtain ⟨a27, d28, ta27⟩ := rf13_4 hW0 ta0
  obtain ⟨a29, d30, ta29⟩ := rf13_5 hW0 ta0
  obtain ⟨a31, d32, ta31⟩ := rf13_6 hW0 ta0
  obtain ⟨a33, d34, ta33⟩ := rf13_7 hW0 ta0
  obtain ⟨a35, d36, ta35⟩ := rf13_8 hW0 ta0
  obtain ⟨a37, d38, ta37⟩ := rf13_9 hW0 ta0
  obtain ⟨a39, d40, ta39⟩ := rf13_10 hW0 ta0
  obtain ⟨a41, d42, ta41⟩ := rf13_11 hW0 ta0
  obtain ⟨v43, c44⟩ : ∃ v, I0 a1 0 = v := ⟨_, rfl⟩
  have b45 := iv2_0 hW0 ta1 c44
  obtain ⟨v46, c47⟩ : ∃ v, I0 a1 1 = v := ⟨_, rfl⟩
  have b48 := iv2_1 hW0 ta1 c47
  obtain ⟨v49, c50⟩ : ∃ v, I0 a1 5 = v := ⟨_, rfl⟩
  have b51 := iv2_5 hW0 ta1 c50
  obtain ⟨v52, c53⟩ : ∃ v, I0 a1 7 = v := ⟨_, rfl⟩
  obtain ⟨v54, c55⟩ : ∃ v, I0 a1 9 = v := ⟨_, rfl⟩
  have b56 := iv2_9 hW0 ta1 c55
  obtain ⟨v57, c58⟩ : ∃ v, I0 a1 11 = v := ⟨_, rfl⟩
  have b59 := iv2_11 hW0 ta1 c58
  obtain ⟨v60, c61⟩ : ∃ v, I0 a2 10 = v := ⟨_, rfl⟩
  have b62 := iv12_10 hW0 ta2 c61
  have hc := hA.ct
  rw [c44, c47, c50, c55, c58, c53] at hc
  have hcg := hG.cs
  have hcn := hG.ms
  have hcw := hG.ws
  have hcu := hG.up
  obtain ⟨sf, sf1, sf2, sf3, sf4⟩ := hS.2.2.2.2.2
  rw [c61] at sf3
  refine tr_aload_n dX5_play_0 rfl ?_
  refine tr_aload_n dX5_play_1 rfl ?_
  refine q_putR dX5_play_2 fl5_39 (kR13 hS0.1 ta0) (Or.inl rfl) hS0 ta0 (okR_in rfl rfl ta1) rfl (by decide +kernel) ?_
  intro R63 hS64 e65 f66
  refine tr_aload_n dX5_play_5 rfl ?_
  refine tr_aload_n dX5_play_6 rfl ?_
  refine q_putR dX5_play_7 fl5_43 (kR13 hS64.1 ta0) (Or.inl rfl) hS64 ta0 (okR_in rfl rfl ta2) rfl (by decide +kernel) ?_
  intro R67 hS68 e69 f70
  have d71 : R67 a0 0 = some a1 := (f70 _ _ (fun q => absurd q.2 (by decide))).trans e65
  refine tr_aload_n dX5_play_10 rfl ?_
  refine tr_iload_n dX5_play_11 rfl ?_
  refine q_putI dX5_play_12 fl5_47 (kR13 hS68.1 ta0) (Or.inl rfl) hS68 ta0 (iokF rfl) rfl (by decide +kernel) ?_
  intro I72 hS73 e74 f75
  refine tr_aload_n dX5_play_15 rfl ?_
  refine q_callVv hE (M' := mX5_forget) (as := []) dX5_play_16 lk5_51 inX5_forget seX5_forget myX5_forget (by decide) ⟨by decide, by decide⟩ rfl (kR13 hS73.1 ta0) (Nat.le_of_ble_eq_true rfl) rfl rfl (by decide) (by decide) (fk_X5_forget hS73.1  ta0) ?_
  rintro cn' K' N' I76 R77 L78 ⟨rfl, rfl, rfl, rfl, rfl, g79, rp82, rp83, rp84, rp85, rp86, rp87, rp88, rp89, rp90, rp91, -⟩
  have hS92 := hS73.tr g79 (by decide +kernel) (by decide +kernel)
  have c93 : I76 a0 2 = x3 := (g79.cell ta0 (by decide +kernel)).trans e74
  refine tr_aload_n dX5_play_19 rfl ?_
  refine tr_getR dX5_play_20 fl5_39 (kR13 hS92.1 ta0) d71 ?_
  refine q_getI dX5_play_23 fl5_54 (kR2 hS92.1 ta1) ((hS92.cell ta1 (by decide +kernel)).trans c53) ?_
  refine tr_istore dX5_play_26 (by decide) (by decide) ?_
  refine q_iconst dX5_play_28 (by decide) ?_
  intro v94 h95
  refine tr_istore dX5_play_29 (by decide) (by decide) ?_
  have lp112 : ∀ (fu : Nat) (ls : Nat → Option Value) (v96 : Int32) (v97 : Int32) (I105 : cz_I), ls 0 = some (.ref a0) → ls 1 = some (.ref a1) → ls 2 = some (.ref a2) → ls 3 = some (.int x3) → ls 4 = some (.int x4) → ls 5 = some (.int v96) → ls 6 = some (.int v97) → St T cn K N d wik_X5_play wrk_X5_play I0 R0 I105 R67 → 0 ≤ v97.toInt → v97.toInt ≤ 240 → (∃ M : Nat, (M : Int) ≤ nzc gZ 0 ∧ cnM sf M = v97.toInt ∧ NgR I105 R0 a0 gZ M ∧ B8 v96 (fun k => if (k : Int) < nzc gZ 3 then nV gZ k M else 0)) → (I105 a0 2 = x3) → (FrN R0 a0 T I0 I105) → (-v97.toInt + 2147483647).toNat < fu → Tr X mX5_play 31 ls [] cn K N I105 R67 L0 0 0 := by
    intro fu
    induction fu with
    | zero => intros; rename_i hz; exact absurd hz (Nat.not_lt_zero _)
    | succ fu ih112 =>
      intro ls v96 v97 I105 hl98 hl99 hl100 hl101 hl102 hl103 hl104 hS106 g107 g108 rw109 rw110 rw111 hm112
      refine tr_iload dX5_play_31 hl104 ?_
      refine tr_aload_n dX5_play_33 hl98 ?_
      refine tr_getR dX5_play_34 fl5_43 (kR13 hS106.1 ta0) e69 ?_
      refine q_getI dX5_play_37 fl5_59 (kR12 hS106.1 ta2) ((hS106.cell ta2 (by decide +kernel)).trans c61) ?_
      refine q_icmp_ge 97 dX5_play_40 (by decide) (fun h114 => ?_) (fun h114 => ?_)
      · skip
        exact tr_vret hZ dX5_play_97 rfl (by decide) (by decide) ⟨rfl, rfl, rfl, rfl, rfl, hS106, d71, e69, rw110, (by obtain ⟨M, h1, h2, h3, h4⟩ := rw109; exact NgR.en (mi := (nzc gZ 0).toNat) sf1 (fun m hm => sf2 m (by omega)) ((nzc gZ 0).toNat - M) M (by omega) h3 (by omega)), rw111, trivial⟩
      · skip
        refine tr_aload_n dX5_play_43 hl98 ?_
        refine tr_getR dX5_play_44 fl5_43 (kR13 hS106.1 ta0) e69 ?_
        refine tr_getR dX5_play_47 fl5_64 (kR12 hS106.1 ta2) ((hS106.rcell ta2 (by decide +kernel)).trans d24) ?_
        refine tr_iload dX5_play_50 hl104 ?_
        refine q_iald dX5_play_52 (kR43 hS106.1 ta23) (ti_in (nR43 hS106.1 ta23) (by omega) (by omega)) ?_
        intro v115 c116
        have b117 := iv43 hS106.1 ta23 c116
        refine tr_istore dX5_play_53 (by decide) (by decide) ?_
        obtain ⟨M118, M118a, M118b, M118n, M118u⟩ := rw109
        obtain ⟨M118', M118d, M118e, M1181, M118c, M118r, M118v⟩ := NgR.ad (mi := (nzc gZ 0).toNat) sf1 (fun m hm => sf2 m (by omega)) ((nzc gZ 0).toNat - M118) M118 (by omega) M118n _ M118u (by omega)
        have M118m : v115.toInt = (M118' : Int) := by have z := sf4 _ d24 M118' (by omega) M1181; rw [M118c, M118b, show I0 a23 v97.toInt.toNat = v115 from (hS106.cell ta23 (wm_no (by decide +kernel))).symm.trans c116] at z; exact z
        obtain rfl : M118' = v115.toInt.toNat := by omega
        rw [M118b] at M118c
        have M118h := (NgP.mk hA hS hS106 hW0 ta0 ta1 ta2 d71 e69 (by rw [show I105 a0 2 = x3 from rw110]; exact pre0) (by decide +kernel) (by decide +kernel))
        refine tr_iload dX5_play_55 rfl ?_
        refine q_if_ne 64 dX5_play_57 (by decide) (fun h119 => ?_) (fun h119 => ?_)
        · skip
          refine tr_aload_n dX5_play_64 hl98 ?_
          refine tr_iload dX5_play_65 rfl ?_
          refine tr_iload dX5_play_67 hl102 ?_
          refine q_callVi hE (M' := mX5_turnAll) (as := [_, _]) dX5_play_69 lk5_67 inX5_turnAll seX5_turnAll myX5_turnAll (by decide) ⟨by decide, by decide⟩ rfl (kR13 hS106.1 ta0) (Nat.le_of_ble_eq_true rfl) rfl rfl (by decide) (by decide) (fk_X5_turnAll hS106.1 (gZ) ((nF gZ v115.toInt.toNat)) ta0 (by omega) (NgP.mk hA hS hS106 hW0 ta0 ta1 ta2 d71 e69 (by rw [show I105 a0 2 = x3 from rw110]; exact pre0) (by decide +kernel) (by decide +kernel)) hG (fun r hr t ht => M118r.2.2.2.2.2.2.2.2 r ((hS106.rcell ta0 (by decide +kernel)).symm.trans hr) t ht) (fun r hr => (M118r.1 r ((hS106.rcell ta0 (by decide +kernel)).symm.trans hr) v115.toInt.toNat (by omega)).cg (fun k hk => by rw [if_neg (fun w => absurd w.1 (Nat.lt_irrefl _))])) (by first | done | with_reducible assumption | omega) (by first | done | with_reducible assumption | omega) (by first | done | with_reducible assumption | omega) (by first | done | with_reducible assumption | omega)) ?_
          rintro v125 cn' K' N' I120 R121 L122 ⟨rfl, rfl, rfl, rfl, rfl, g123, rp126, rp127, rp128, rp129, rp130, rp131, rp132, -⟩
          have hS133 := hS106.tr g123 (by decide +kernel) (by decide +kernel)
          have hb134 : B8 v125 (fun k => if (k : Int) < nzc gZ 3 ∧ ¬ nB gZ v115.toInt.toNat k = -2 then 1 else 0) := rp126.cg (fun k hk => by rw [nB_pos (by omega), show ((v115.toInt.toNat : Nat) : Int) = v115.toInt by omega])
          have hb134r := And.intro hb134.1 hb134.2.1
          refine tr_istore dX5_play_72 (by decide) (by decide) ?_
          refine tr_iload dX5_play_74 hl103 ?_
          refine tr_iload dX5_play_76 rfl ?_
          refine tr_ixor dX5_play_78 ?_
          obtain ⟨v135, lx136⟩ : ∃ z, z = v96 ^^^ v125 := ⟨_, rfl⟩
          rw [← lx136]
          have hu137 := TUp M118v hb134 lx136
          have hu137r := And.intro hu137.1 hu137.2.1
          refine tr_istore dX5_play_79 (by decide) (by decide) ?_
          refine tr_aload_n dX5_play_81 hl98 ?_
          refine tr_iload dX5_play_82 rfl ?_
          refine tr_iload dX5_play_84 rfl ?_
          refine tr_iload dX5_play_86 rfl ?_
          refine q_callVv hE (M' := mX5_judge) (as := [_, _, _]) dX5_play_88 lk5_71 inX5_judge seX5_judge myX5_judge (by decide) ⟨by decide, by decide⟩ rfl (kR13 hS133.1 ta0) (Nat.le_of_ble_eq_true rfl) rfl rfl (by decide) (by decide) (fk_X5_judge hS133.1 (gZ) ((nB gZ v115.toInt.toNat)) ((fun k => nV gZ k (v115.toInt.toNat + 1))) ta0 (by omega) (by omega) (by omega) (NgP.mk hA hS hS133 hW0 ta0 ta1 ta2 d71 e69 (by rw [show I120 a0 2 = x3 from (Eq.trans (g123.cell ta0 (by decide +kernel)) rw110)]; exact pre0) (by decide +kernel) (by decide +kernel)) hG hb134 hu137 (by first | done | with_reducible assumption | omega)) ?_
          rintro cn' K' N' I138 R139 L140 ⟨rfl, rfl, rfl, rfl, rfl, g141, rp144, rp145, rp146, rp147, rp148, -⟩
          have hS149 := hS133.tr g141 (by decide +kernel) (by decide +kernel)
          refine q_iincE dX5_play_91 hl104 (by decide) (by decide) (by intros; omega) ?_
          intro v150 h151
          refine tr_goto 31 dX5_play_94 (by decide) ?_
          exact ih112 _ v135 v150 I138 hl98 hl99 hl100 hl101 hl102 rfl rfl hS149 (by omega) (by omega) ⟨v115.toInt.toNat + 1, by omega, by rw [cnM, M118c, M1181]; omega, NgR.go M118r (NgA.tn (by omega) ((show ((v115.toInt.toNat : Nat) : Int) = v115.toInt by omega)) (fun r hr => rp127 r ((hS106.rcell ta0 (by decide +kernel)).trans hr)) (fun r hr => rp128 r ((hS106.rcell ta0 (by decide +kernel)).trans hr)) (fun r hr => rp129 r ((hS106.rcell ta0 (by decide +kernel)).trans hr)) (fun r hr => rp130 r ((hS106.rcell ta0 (by decide +kernel)).trans hr)) (fun r hr => rp131 r ((hS106.rcell ta0 (by decide +kernel)).trans hr))) (NgJ.of (show ((v115.toInt.toNat : Nat) : Int) = v115.toInt by omega) (fun r hr => rp144 r ((hS106.rcell ta0 (by decide +kernel)).trans hr)) (fun r hr => rp145 r ((hS106.rcell ta0 (by decide +kernel)).trans hr)) (fun r hr => rp146 r ((hS106.rcell ta0 (by decide +kernel)).trans hr)) (fun r hr => rp147 r ((hS106.rcell ta0 (by decide +kernel)).trans hr))) (fun r j s s1 s2 hr => by have hs : s = 4 ∨ s = 5 ∨ s = 6 ∨ s = 7 := (by omega); rcases hs with rfl | rfl | rfl | rfl; exact g123.cell (hW0.rs ta0 rfl rfl hr : T r = 45) (wm_no (by decide +kernel)); exact g123.cell (hW0.rs ta0 rfl rfl hr : T r = 46) (wm_no (by decide +kernel)); exact g123.cell (hW0.rs ta0 rfl rfl hr : T r = 47) (wm_no (by decide +kernel)); exact g123.cell (hW0.rs ta0 rfl rfl hr : T r = 48) (wm_no (by decide +kernel))) (fun r j s hs hr => by have hs : s = 3 ∨ s = 8 ∨ s = 9 ∨ s = 10 ∨ s = 11 := (by omega); rcases hs with rfl | rfl | rfl | rfl | rfl; exact g141.cell (hW0.rs ta0 rfl rfl hr : T r = 44) (wm_no (by decide +kernel)); exact g141.cell (hW0.rs ta0 rfl rfl hr : T r = 49) (wm_no (by decide +kernel)); exact g141.cell (hW0.rs ta0 rfl rfl hr : T r = 50) (wm_no (by decide +kernel)); exact g141.cell (hW0.rs ta0 rfl rfl hr : T r = 51) (wm_no (by decide +kernel)); exact g141.cell (hW0.rs ta0 rfl rfl hr : T r = 52) (wm_no (by decide +kernel))) (by omega) (by omega), hu137⟩ (Eq.trans ((g141.cell ta0 (by decide +kernel)).trans (g123.cell ta0 (by decide +kernel))) rw110) ((rw111.tr (FrN.rc rp132 (fun k k1 k2 => by have hk : k = 3 ∨ k = 4 ∨ k = 5 ∨ k = 6 ∨ k = 7 ∨ k = 8 ∨ k = 9 ∨ k = 10 ∨ k = 11 := (by omega); rcases hk with rfl | rfl | rfl | rfl | rfl | rfl | rfl | rfl | rfl <;> exact (hS149.rcell ta0 (by decide +kernel)).symm))).tr (FrN.rc rp148 (fun k k1 k2 => by have hk : k = 3 ∨ k = 4 ∨ k = 5 ∨ k = 6 ∨ k = 7 ∨ k = 8 ∨ k = 9 ∨ k = 10 ∨ k = 11 := (by omega); rcases hk with rfl | rfl | rfl | rfl | rfl | rfl | rfl | rfl | rfl <;> exact (hS149.rcell ta0 (by decide +kernel)).symm))) (by omega)
        · skip
          refine q_iconst dX5_play_60 (by decide) ?_
          intro v152 h153
          refine tr_goto 72 dX5_play_61 (by decide) ?_
          have hb154 : B8 v152 (fun k => if (k : Int) < nzc gZ 3 ∧ ¬ nB gZ v115.toInt.toNat k = -2 then 1 else 0) := (B8.z (by omega)).cg (fun k hk => by rw [show v115.toInt.toNat = 0 by omega, if_neg (fun w => w.2 (nB_z k))])
          have hb154r := And.intro hb154.1 hb154.2.1
          refine tr_istore dX5_play_72 (by decide) (by decide) ?_
          refine tr_iload dX5_play_74 hl103 ?_
          refine tr_iload dX5_play_76 rfl ?_
          refine tr_ixor dX5_play_78 ?_
          obtain ⟨v155, lx156⟩ : ∃ z, z = v96 ^^^ v152 := ⟨_, rfl⟩
          rw [← lx156]
          have hu157 := TUp M118v hb154 lx156
          have hu157r := And.intro hu157.1 hu157.2.1
          refine tr_istore dX5_play_79 (by decide) (by decide) ?_
          refine tr_aload_n dX5_play_81 hl98 ?_
          refine tr_iload dX5_play_82 rfl ?_
          refine tr_iload dX5_play_84 rfl ?_
          refine tr_iload dX5_play_86 rfl ?_
          refine q_callVv hE (M' := mX5_judge) (as := [_, _, _]) dX5_play_88 lk5_71 inX5_judge seX5_judge myX5_judge (by decide) ⟨by decide, by decide⟩ rfl (kR13 hS106.1 ta0) (Nat.le_of_ble_eq_true rfl) rfl rfl (by decide) (by decide) (fk_X5_judge hS106.1 (gZ) ((nB gZ v115.toInt.toNat)) ((fun k => nV gZ k (v115.toInt.toNat + 1))) ta0 (by omega) (by omega) (by omega) (NgP.mk hA hS hS106 hW0 ta0 ta1 ta2 d71 e69 (by rw [show I105 a0 2 = x3 from rw110]; exact pre0) (by decide +kernel) (by decide +kernel)) hG hb154 hu157 (by first | done | with_reducible assumption | omega)) ?_
          rintro cn' K' N' I158 R159 L160 ⟨rfl, rfl, rfl, rfl, rfl, g161, rp164, rp165, rp166, rp167, rp168, -⟩
          have hS169 := hS106.tr g161 (by decide +kernel) (by decide +kernel)
          refine q_iincE dX5_play_91 hl104 (by decide) (by decide) (by intros; omega) ?_
          intro v170 h171
          refine tr_goto 31 dX5_play_94 (by decide) ?_
          exact ih112 _ v155 v170 I158 hl98 hl99 hl100 hl101 hl102 rfl rfl hS169 (by omega) (by omega) ⟨v115.toInt.toNat + 1, by omega, by rw [cnM, M118c, M1181]; omega, NgR.go M118r (by have z : v115.toInt.toNat = 0 := (by omega); rw [z]; rw [z] at M118r; exact NgA.z M118r) (NgJ.of (show ((v115.toInt.toNat : Nat) : Int) = v115.toInt by omega) (fun r hr => rp164 r ((hS106.rcell ta0 (by decide +kernel)).trans hr)) (fun r hr => rp165 r ((hS106.rcell ta0 (by decide +kernel)).trans hr)) (fun r hr => rp166 r ((hS106.rcell ta0 (by decide +kernel)).trans hr)) (fun r hr => rp167 r ((hS106.rcell ta0 (by decide +kernel)).trans hr))) (fun _ _ _ _ _ _ => rfl) (fun r j s hs hr => by have hs : s = 3 ∨ s = 8 ∨ s = 9 ∨ s = 10 ∨ s = 11 := (by omega); rcases hs with rfl | rfl | rfl | rfl | rfl; exact g161.cell (hW0.rs ta0 rfl rfl hr : T r = 44) (wm_no (by decide +kernel)); exact g161.cell (hW0.rs ta0 rfl rfl hr : T r = 49) (wm_no (by decide +kernel)); exact g161.cell (hW0.rs ta0 rfl rfl hr : T r = 50) (wm_no (by decide +kernel)); exact g161.cell (hW0.rs ta0 rfl rfl hr : T r = 51) (wm_no (by decide +kernel)); exact g161.cell (hW0.rs ta0 rfl rfl hr : T r = 52) (wm_no (by decide +kernel))) (by omega) (by omega), hu157⟩ (Eq.trans (g161.cell ta0 (by decide +kernel)) rw110) (rw111.tr (FrN.rc rp168 (fun k k1 k2 => by have hk : k = 3 ∨ k = 4 ∨ k = 5 ∨ k = 6 ∨ k = 7 ∨ k = 8 ∨ k = 9 ∨ k = 10 ∨ k = 11 := (by omega); rcases hk with rfl | rfl | rfl | rfl | rfl | rfl | rfl | rfl | rfl <;> exact (hS169.rcell ta0 (by decide +kernel)).symm))) (by omega)
  exact lp112 _ _ v52 v94 I76 rfl rfl rfl rfl rfl rfl rfl hS92 (by omega) (by omega) ⟨0, by omega, by show (0 : Int) = _; omega, NgR.z (fun r hr j hj => rp82 r ((hS92.rcell ta0 (by decide +kernel)).trans hr) j hj) (fun s r s1 s2 hr j hj => by have hs : s = 4 ∨ s = 5 ∨ s = 6 ∨ s = 7 := (by omega); rcases hs with rfl | rfl | rfl | rfl; exact rp83 r ((hS92.rcell ta0 (by decide +kernel)).trans hr) j hj; exact rp84 r ((hS92.rcell ta0 (by decide +kernel)).trans hr) j hj; exact rp85 r ((hS92.rcell ta0 (by decide +kernel)).trans hr) j hj; exact rp86 r ((hS92.rcell ta0 (by decide +kernel)).trans hr) j hj) (fun s r s1 s2 hr j hj => by have hs : s = 8 ∨ s = 9 ∨ s = 10 ∨ s = 11 := (by omega); rcases hs with rfl | rfl | rfl | rfl; exact rp87 r ((hS92.rcell ta0 (by decide +kernel)).trans hr) j hj; exact rp88 r ((hS92.rcell ta0 (by decide +kernel)).trans hr) j hj; exact rp89 r ((hS92.rcell ta0 (by decide +kernel)).trans hr) j hj; exact rp90 r ((hS92.rcell ta0 (by decide +kernel)).trans hr) j hj) (by omega) (by omega), (by have z := (UpZ (Z := gZ) (v := v52) (by omega) hcu hG.ub); exact z)⟩ c93 (((FrN.rf (R := R0) (n := a0) (T := T)).po f75 rfl ta0).tr (FrN.rc rp91 (fun k k1 k2 => by have hk : k = 3 ∨ k = 4 ∨ k = 5 ∨ k = 6 ∨ k = 7 ∨ k = 8 ∨ k = 9 ∨ k = 10 ∨ k = 11 := (by omega); rcases hk with rfl | rfl | rfl | rfl | rfl | rfl | rfl | rfl | rfl <;> exact (hS92.rcell ta0 (by decide +kernel)).symm))) (Nat.lt_succ_self _)

