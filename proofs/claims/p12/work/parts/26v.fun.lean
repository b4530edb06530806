theorem FrM.ro {R : cz_R} {b : Nat} {T : Nat → Nat} {I J : cz_I} (h : RoF rdm T I J) : FrM R b T I J := fun a j ta _ => h a j ta
def wif_tuO : List Nat := [968, 969, 970, 971, 972, 973, 974]
def wrf_tuO : List Nat := []
def wlf_tuO : List Nat := []
set_option maxHeartbeats 4000000 in
theorem sf_tuO {X : cz_X} (hE : cz_env X) {T : Nat → Nat} {cn : Nat} {K N : Nat → Nat} {I0 : cz_I} {R0 : cz_R} {L0 : cz_L} {Q : cz_Q} (hZ : cz_Z X mX12_readTurner Q) (hW0 : Wf T cn K N I0 R0 0) (gB : cz_B) {a0 : Nat} (ta0 : T a0 = 15) {y1 : Int64} {x2 : Int32} (pre0 : (I0 a0 9).toInt = 5) (nn4 : ∃ b, R0 a0 4 = some b) {ls : Nat → Option Value} (hl0 : ls 0 = some (.ref a0)) (hl1 : ls 1 = some (.long y1)) (hl3 : ls 3 = some (.int x2)) (hq : ∀ (I' : cz_I) (R' : cz_R) (L' : cz_L), St T cn K N 0 wif_tuO wrf_tuO I0 R0 I' R' ∧ ((I' a0 9).toInt = 5) ∧ ((I' a0 13).toInt = (I0 a0 13).toInt) ∧ ((I' a0 14).toInt = (I0 a0 14).toInt) ∧ True → Q none cn K N I' R' L') : Tr X mX12_readTurner 84 ls [] cn K N I0 R0 L0 0 0 := by
  have hS0 : St T cn K N 0 wif_tuO wrf_tuO I0 R0 I0 R0 := St.rf0 hW0
  have hL0 : LgS T wlf_tuO L0 L0 := LgS.rf0
  obtain ⟨a1, d2⟩ := nn4
  have ta1 : T a1 = 14 := hW0.rsN ta0 rfl d2
  obtain ⟨v3, c4⟩ : ∃ v, I0 a0 9 = v := ⟨_, rfl⟩
  have b5 := iv15_9 hS0.1 ta0 c4
  have p6 := pre0
  rw [c4] at p6
  obtain ⟨v7, c8⟩ : ∃ v, I0 a0 13 = v := ⟨_, rfl⟩
  obtain ⟨v9, c10⟩ : ∃ v, I0 a0 14 = v := ⟨_, rfl⟩
  refine tr_aload_n dX12_readTurner_84 hl0 ?_
  refine tr_ldcwS dX12_readTurner_85 ld12_324 ?_
  refine q_iconst dX12_readTurner_88 (by decide) ?_
  intro v11 h12
  refine tr_aload_n dX12_readTurner_89 hl0 ?_
  refine tr_getR dX12_readTurner_90 fl12_188 (kR15 hS0.1 ta0) d2 ?_
  obtain ⟨v13, c14⟩ : ∃ v, I0 a1 0 = v := ⟨_, rfl⟩
  have b15 := iv14_0 hW0 ta1 c14
  refine q_getI dX12_readTurner_93 fl12_192 (kR14 hS0.1 ta1) c14 ?_
  refine q_iconst dX12_readTurner_96 (by decide) ?_
  intro v16 h17
  refine q_isubE dX12_readTurner_97 (by intros; omega) ?_
  intro v18 h19
  refine q_callVi hE (M' := mX12_readPart) (as := [_, _, _]) dX12_readTurner_98 lk12_249 inX12_readPart seX12_readPart myX12_readPart (by decide) ⟨by decide, by decide⟩ rfl (kR15 hS0.1 ta0) (Nat.le_of_ble_eq_true rfl) rfl rfl (by decide) (by decide) (k_X12_readPart hS0.1 ta0 (by decide)) ?_
  rintro v24 cn' K' N' I20 R21 L22 ⟨rfl, rfl, rfl, rfl, g23, p25, w26, -⟩
  have hS27 := hS0.tr g23 (by decide +kernel) (by decide +kernel)
  have b28 : 0 ≤ v24.toInt ∧ v24.toInt ≤ 239 := by omega
  clear p25
  have ov29 := w26.over (by rw [c4]; omega)
  obtain ⟨v30, c31⟩ : ∃ v, I20 a0 9 = v := ⟨_, rfl⟩
  have b32 := iv15_9 hS27.1 ta0 c31
  obtain ⟨v33, c34⟩ : ∃ v, I20 a0 13 = v := ⟨_, rfl⟩
  obtain ⟨v35, c36⟩ : ∃ v, I20 a0 14 = v := ⟨_, rfl⟩
  (try rw [c31] at ov29)
  (try rw [c34] at ov29)
  (try rw [c36] at ov29)
  (try rw [c4] at ov29)
  (try rw [c8] at ov29)
  (try rw [c10] at ov29)
  refine tr_istore dX12_readTurner_101 (by decide) (by decide) ?_
  refine tr_aload_n dX12_readTurner_103 hl0 ?_
  refine tr_ldcwS dX12_readTurner_104 ld12_272 ?_
  refine tr_iload dX12_readTurner_107 rfl ?_
  refine q_iconst dX12_readTurner_109 (by decide) ?_
  intro v37 h38
  refine q_iaddE dX12_readTurner_110 (by intros; omega) ?_
  intro v39 h40
  refine tr_aload_n dX12_readTurner_111 hl0 ?_
  refine tr_getR dX12_readTurner_112 fl12_188 (kR15 hS27.1 ta0) d2 ?_
  refine q_getI dX12_readTurner_115 fl12_192 (kR14 hS27.1 ta1) ((hS27.cell ta1 (by decide +kernel)).trans c14) ?_
  refine q_callVi hE (M' := mX12_readPart) (as := [_, _, _]) dX12_readTurner_118 lk12_249 inX12_readPart seX12_readPart myX12_readPart (by decide) ⟨by decide, by decide⟩ rfl (kR15 hS27.1 ta0) (Nat.le_of_ble_eq_true rfl) rfl rfl (by decide) (by decide) (k_X12_readPart hS27.1 ta0 (by decide)) ?_
  rintro v45 cn' K' N' I41 R42 L43 ⟨rfl, rfl, rfl, rfl, g44, p46, w47, -⟩
  have hS48 := hS27.tr g44 (by decide +kernel) (by decide +kernel)
  have b49 : 1 ≤ v45.toInt ∧ v45.toInt ≤ 240 := by omega
  clear p46
  have ov50 := w47.over (by rw [c31]; omega)
  obtain ⟨v51, c52⟩ : ∃ v, I41 a0 9 = v := ⟨_, rfl⟩
  have b53 := iv15_9 hS48.1 ta0 c52
  obtain ⟨v54, c55⟩ : ∃ v, I41 a0 13 = v := ⟨_, rfl⟩
  obtain ⟨v56, c57⟩ : ∃ v, I41 a0 14 = v := ⟨_, rfl⟩
  (try rw [c52] at ov50)
  (try rw [c55] at ov50)
  (try rw [c57] at ov50)
  (try rw [c31] at ov50)
  (try rw [c34] at ov50)
  (try rw [c36] at ov50)
  refine tr_istore dX12_readTurner_121 (by decide) (by decide) ?_
  refine tr_aload_n dX12_readTurner_123 hl0 ?_
  refine tr_ldcwS dX12_readTurner_124 ld12_325 ?_
  refine q_iconst dX12_readTurner_127 (by decide) ?_
  intro v58 h59
  refine q_bipush dX12_readTurner_128 (by decide +kernel) ?_
  intro v60 h61
  refine q_callVi hE (M' := mX12_readPart) (as := [_, _, _]) dX12_readTurner_130 lk12_249 inX12_readPart seX12_readPart myX12_readPart (by decide) ⟨by decide, by decide⟩ rfl (kR15 hS48.1 ta0) (Nat.le_of_ble_eq_true rfl) rfl rfl (by decide) (by decide) (k_X12_readPart hS48.1 ta0 (by decide)) ?_
  rintro v66 cn' K' N' I62 R63 L64 ⟨rfl, rfl, rfl, rfl, g65, p67, w68, -⟩
  have hS69 := hS48.tr g65 (by decide +kernel) (by decide +kernel)
  have b70 : 1 ≤ v66.toInt ∧ v66.toInt ≤ 8 := by omega
  clear p67
  have ov71 := w68.over (by rw [c52]; omega)
  obtain ⟨v72, c73⟩ : ∃ v, I62 a0 9 = v := ⟨_, rfl⟩
  have b74 := iv15_9 hS69.1 ta0 c73
  obtain ⟨v75, c76⟩ : ∃ v, I62 a0 13 = v := ⟨_, rfl⟩
  obtain ⟨v77, c78⟩ : ∃ v, I62 a0 14 = v := ⟨_, rfl⟩
  (try rw [c73] at ov71)
  (try rw [c76] at ov71)
  (try rw [c78] at ov71)
  (try rw [c52] at ov71)
  (try rw [c55] at ov71)
  (try rw [c57] at ov71)
  refine tr_istore dX12_readTurner_133 (by decide) (by decide) ?_
  refine tr_aload_n dX12_readTurner_135 hl0 ?_
  refine tr_ldcwS dX12_readTurner_136 ld12_327 ?_
  refine q_iconst dX12_readTurner_139 (by decide) ?_
  intro v79 h80
  refine q_bipush dX12_readTurner_140 (by decide +kernel) ?_
  intro v81 h82
  refine q_callVi hE (M' := mX12_readPart) (as := [_, _, _]) dX12_readTurner_142 lk12_249 inX12_readPart seX12_readPart myX12_readPart (by decide) ⟨by decide, by decide⟩ rfl (kR15 hS69.1 ta0) (Nat.le_of_ble_eq_true rfl) rfl rfl (by decide) (by decide) (k_X12_readPart hS69.1 ta0 (by decide)) ?_
  rintro v87 cn' K' N' I83 R84 L85 ⟨rfl, rfl, rfl, rfl, g86, p88, w89, -⟩
  have hS90 := hS69.tr g86 (by decide +kernel) (by decide +kernel)
  have b91 : 1 ≤ v87.toInt ∧ v87.toInt ≤ 20 := by omega
  clear p88
  have ov92 := w89.over (by rw [c73]; omega)
  obtain ⟨v93, c94⟩ : ∃ v, I83 a0 9 = v := ⟨_, rfl⟩
  have b95 := iv15_9 hS90.1 ta0 c94
  obtain ⟨v96, c97⟩ : ∃ v, I83 a0 13 = v := ⟨_, rfl⟩
  obtain ⟨v98, c99⟩ : ∃ v, I83 a0 14 = v := ⟨_, rfl⟩
  (try rw [c94] at ov92)
  (try rw [c97] at ov92)
  (try rw [c99] at ov92)
  (try rw [c73] at ov92)
  (try rw [c76] at ov92)
  (try rw [c78] at ov92)
  refine tr_istore dX12_readTurner_145 (by decide) (by decide) ?_
  refine tr_aload_n dX12_readTurner_147 hl0 ?_
  refine tr_ldcS dX12_readTurner_148 ld12_253 ?_
  refine q_callVv hE (M' := mX12_needs) (as := [_]) dX12_readTurner_150 lk12_157 inX12_needs seX12_needs myX12_needs (by decide) ⟨by decide, by decide⟩ rfl (kR15 hS90.1 ta0) (Nat.le_of_ble_eq_true rfl) rfl rfl (by decide) (by decide) (k_X12_needs hS90.1 ta0 (by decide)) ?_
  rintro cn' K' N' I100 R101 L102 ⟨rfl, rfl, rfl, rfl, g103, w105, -⟩
  have hS106 := hS90.tr g103 (by decide +kernel) (by decide +kernel)
  have ov107 := w105.over (by rw [c94]; omega)
  obtain ⟨v108, c109⟩ : ∃ v, I100 a0 9 = v := ⟨_, rfl⟩
  have b110 := iv15_9 hS106.1 ta0 c109
  obtain ⟨v111, c112⟩ : ∃ v, I100 a0 13 = v := ⟨_, rfl⟩
  obtain ⟨v113, c114⟩ : ∃ v, I100 a0 14 = v := ⟨_, rfl⟩
  (try rw [c109] at ov107)
  (try rw [c112] at ov107)
  (try rw [c114] at ov107)
  (try rw [c94] at ov107)
  (try rw [c97] at ov107)
  (try rw [c99] at ov107)
  refine q_iconst dX12_readTurner_153 (by decide) ?_
  intro v115 h116
  refine tr_istore dX12_readTurner_154 (by decide) (by decide) ?_
  refine q_iconst dX12_readTurner_156 (by decide) ?_
  intro v117 h118
  refine tr_istore dX12_readTurner_157 (by decide) (by decide) ?_
  refine tr_iload dX12_readTurner_159 rfl ?_
  refine q_if_eq 227 dX12_readTurner_161 (by decide) (fun h119 => ?_) (fun h119 => ?_)
  · skip
    exfalso; omega
  · skip
    refine tr_aload_n dX12_readTurner_164 hl0 ?_
    refine q_getI dX12_readTurner_165 fl12_99 (kR15 hS106.1 ta0) c109 ?_
    refine q_iconst dX12_readTurner_168 (by decide) ?_
    intro v120 h121
    refine q_icmp_eq 227 dX12_readTurner_169 (by decide) (fun h122 => ?_) (fun h122 => ?_)
    · skip
      refine tr_aload_n dX12_readTurner_227 hl0 ?_
      refine q_getI dX12_readTurner_228 fl12_99 (kR15 hS106.1 ta0) c109 ?_
      refine q_iconst dX12_readTurner_231 (by decide) ?_
      intro v123 h124
      refine q_icmp_ne 236 dX12_readTurner_232 (by decide) (fun h125 => ?_) (fun h125 => ?_)
      · skip
        exfalso; omega
      · skip
        exact tr_vret hZ dX12_readTurner_235 rfl (by decide) (by decide) (hq _ _ _ ⟨hS106, (by (try rw [c109]); first | done | with_reducible assumption | omega), (by (try rw [c112]); (try rw [c8]); first | done | with_reducible assumption | omega), (by (try rw [c114]); (try rw [c10]); first | done | with_reducible assumption | omega), trivial⟩)
    · skip
      exfalso; omega
def wif_tuL : List Nat := [900, 903, 968, 969, 970, 971, 972, 973, 974, 4095, 4159, 4223, 4287, 4351, 4415, 4799, 4863]
def wrf_tuL : List Nat := []
def wlf_tuL : List Nat := [975, 4735]
set_option maxHeartbeats 4000000 in
theorem sf_tuL {X : cz_X} (hE : cz_env X) {T : Nat → Nat} {cn : Nat} {K N : Nat → Nat} {I0 : cz_I} {R0 : cz_R} {L0 : cz_L} {Q : cz_Q} (hZ : cz_Z X mX12_readTurner Q) (hW0 : Wf T cn K N I0 R0 0) (gB : cz_B) (gs : Int) (gQ : Nat → Int) {a0 : Nat} (ta0 : T a0 = 15) {y1 : Int64} {x2 : Int32} (hx2 : 0 ≤ x2.toInt ∧ x2.toInt ≤ 3) (hT : ∀ t, R0 a0 5 = some t → Tx I0 t gB) (hN : ∀ b, R0 a0 4 = some b → NmM I0 R0 L0 b gQ) (pre0 : (I0 a0 9).toInt = (tkM gB (tkN gB (tkN gB (tkN gB gs))))) (pre1 : (I0 a0 9).toInt ≤ 4) (pre2 : (I0 a0 10).toInt = (tkS gB (tkN gB (tkN gB (tkN gB gs))))) (pre3 : (I0 a0 11).toInt = (tkG gB (tkN gB (tkN gB (tkN gB gs))))) (pre4 : (AtW ((tkK gB (tkN gB (tkN gB (tkN gB gs))))) ((L0 a0 15).toInt) ((tkW gB (tkN gB (tkN gB (tkN gB gs))))))) (pre5 : (AtV ((tkK gB (tkN gB (tkN gB (tkN gB gs))))) ((I0 a0 12).toInt) ((tkV gB (tkN gB (tkN gB (tkN gB gs))))))) (pre6 : (AtN ((tkK gB (tkN gB (tkN gB (tkN gB gs))))) ((I0 a0 8).toInt) ((tkN gB (tkN gB (tkN gB (tkN gB gs))))))) (pre7 : (I0 a0 7).toInt = (gB.2)) (pre8 : ∀ b1, R0 a0 4 = some b1 → (I0 b1 0).toInt = (gQ 0)) (pre9 : ∀ b1, R0 a0 4 = some b1 → (I0 b1 1).toInt = (gQ 1)) (pre10 : ∀ b1, R0 a0 4 = some b1 → (I0 b1 2).toInt = (gQ 2)) (pre11 : ∀ b1, R0 a0 4 = some b1 → (I0 b1 3).toInt = (gQ 3)) (pre12 : ∀ b1, R0 a0 4 = some b1 → (I0 b1 4).toInt = (gQ 4)) (pre13 : ∀ b1, R0 a0 4 = some b1 → (I0 b1 5).toInt = (gQ 5)) (pre14 : ∀ b1, R0 a0 4 = some b1 → (I0 b1 6).toInt = (gQ 6)) (pre15 : ∀ b1, R0 a0 4 = some b1 → (I0 b1 9).toInt = (gQ 8)) (pre16 : (Q7M ((gQ 0)) ((gQ 7)))) (pre17 : (tkK gB gs) = 1) (pre18 : (srt gB gs) = 7) (pre19 : (gQ 4) ≤ 4) (pre20 : (gQ 0) ≠ 0) (pre21 : (isN gB (tkN gB gs)) = 1) (pre22 : (nmI gQ 100 (gQ 3) (tkW gB (tkN gB gs))) = -1) (pre23 : (nmI gQ 200 (gQ 4) (tkW gB (tkN gB gs))) = -1) (pre24 : y1.toInt = (tkW gB (tkN gB gs))) (pre25 : (tkd gB (tkN gB (tkN gB gs))) = x2.toInt) (nn4 : ∃ b, R0 a0 4 = some b) {ls : Nat → Option Value} (hl0 : ls 0 = some (.ref a0)) (hl1 : ls 1 = some (.long y1)) (hl3 : ls 3 = some (.int x2)) (hq : ∀ (I' : cz_I) (R' : cz_R) (L' : cz_L), St T cn K N 0 wif_tuL wrf_tuL I0 R0 I' R' ∧ (∀ b, R0 a0 4 = some b → FrM R0 b T I0 I') ∧ (∀ dr, R0 a0 4 = some dr → FrO 14 dr T I0 I') ∧ ((((lnF gB gQ gs) = 0) ∧ (∀ b1, R' a0 4 = some b1 → (I' b1 0).toInt = (lnQ gB gQ gs 0)) ∧ (∀ b1, R' a0 4 = some b1 → (I' b1 1).toInt = (lnQ gB gQ gs 1)) ∧ (∀ b1, R' a0 4 = some b1 → (I' b1 2).toInt = (lnQ gB gQ gs 2)) ∧ (∀ b1, R' a0 4 = some b1 → (I' b1 3).toInt = (lnQ gB gQ gs 3)) ∧ (∀ b1, R' a0 4 = some b1 → (I' b1 4).toInt = (lnQ gB gQ gs 4)) ∧ (∀ b1, R' a0 4 = some b1 → (I' b1 5).toInt = (lnQ gB gQ gs 5)) ∧ (∀ b1, R' a0 4 = some b1 → (I' b1 6).toInt = (lnQ gB gQ gs 6)) ∧ (∀ b1, R' a0 4 = some b1 → (I' b1 9).toInt = (lnQ gB gQ gs 8)) ∧ ((I' a0 13).toInt = (I0 a0 13).toInt) ∧ ((I' a0 9).toInt = (tkM gB (lnS gB gQ gs))) ∧ ((I' a0 9).toInt ≤ 4) ∧ ((I' a0 10).toInt = (tkS gB (lnS gB gQ gs))) ∧ ((I' a0 11).toInt = (tkG gB (lnS gB gQ gs))) ∧ ((AtW ((tkK gB (lnS gB gQ gs))) ((L' a0 15).toInt) ((tkW gB (lnS gB gQ gs))))) ∧ ((AtV ((tkK gB (lnS gB gQ gs))) ((I' a0 12).toInt) ((tkV gB (lnS gB gQ gs))))) ∧ ((AtN ((tkK gB (lnS gB gQ gs))) ((I' a0 8).toInt) ((tkN gB (lnS gB gQ gs))))) ∧ LgS T wlf_tuL L0 L' ∧ (∀ b, R0 a0 4 = some b → NmM I' R' L' b (lnQ gB gQ gs)) ∧ (∀ E b, R0 a0 4 = some b → AlM I0 R0 b gQ E → AlM I' R' b (lnQ gB gQ gs) (lnE gB gQ gs E)) ∧ True) ∨ (((lnF gB gQ gs) ≠ 0) ∧ ((I' a0 9).toInt = 5) ∧ ((I' a0 13).toInt = (lnF gB gQ gs)) ∧ ((I' a0 14).toInt = (lnP gB gQ gs)) ∧ True)) ∧ True → Q none cn K N I' R' L') : Tr X mX12_readTurner 84 ls [] cn K N I0 R0 L0 0 0 := by
  have hS0 : St T cn K N 0 wif_tuL wrf_tuL I0 R0 I0 R0 := St.rf0 hW0
  have hL0 : LgS T wlf_tuL L0 L0 := LgS.rf0
  obtain ⟨a1, d2⟩ := nn4
  have ta1 : T a1 = 14 := hW0.rsN ta0 rfl d2
  obtain ⟨v3, c4⟩ : ∃ v, I0 a0 9 = v := ⟨_, rfl⟩
  have b5 := iv15_9 hS0.1 ta0 c4
  have p6 := pre0
  rw [c4] at p6
  have p7 := pre1
  rw [c4] at p7
  obtain ⟨v8, c9⟩ : ∃ v, I0 a0 10 = v := ⟨_, rfl⟩
  have b10 := iv15_10 hS0.1 ta0 c9
  have p11 := pre2
  rw [c9] at p11
  obtain ⟨v12, c13⟩ : ∃ v, I0 a0 11 = v := ⟨_, rfl⟩
  have p14 := pre3
  rw [c13] at p14
  obtain ⟨y15, c16⟩ : ∃ v, L0 a0 15 = v := ⟨_, rfl⟩
  have p17 := pre4
  rw [c16] at p17
  obtain ⟨v18, c19⟩ : ∃ v, I0 a0 12 = v := ⟨_, rfl⟩
  have p20 := pre5
  rw [c19] at p20
  obtain ⟨v21, c22⟩ : ∃ v, I0 a0 8 = v := ⟨_, rfl⟩
  have b23 := iv15_8 hS0.1 ta0 c22
  have p24 := pre6
  rw [c22] at p24
  obtain ⟨v25, c26⟩ : ∃ v, I0 a0 7 = v := ⟨_, rfl⟩
  have b27 := iv15_7 hW0 ta0 c26
  have p28 := pre7
  rw [c26] at p28
  obtain ⟨v29, c30⟩ : ∃ v, I0 a1 0 = v := ⟨_, rfl⟩
  have b31 := iv14_0 hW0 ta1 c30
  have p32 := pre8 _ d2
  rw [c30] at p32
  obtain ⟨v33, c34⟩ : ∃ v, I0 a1 1 = v := ⟨_, rfl⟩
  have b35 := iv14_1 hW0 ta1 c34
  have p36 := pre9 _ d2
  rw [c34] at p36
  obtain ⟨v37, c38⟩ : ∃ v, I0 a1 2 = v := ⟨_, rfl⟩
  have b39 := iv14_2 hW0 ta1 c38
  have p40 := pre10 _ d2
  rw [c38] at p40
  obtain ⟨v41, c42⟩ : ∃ v, I0 a1 3 = v := ⟨_, rfl⟩
  have b43 := iv14_3 hW0 ta1 c42
  have p44 := pre11 _ d2
  rw [c42] at p44
  obtain ⟨v45, c46⟩ : ∃ v, I0 a1 4 = v := ⟨_, rfl⟩
  have b47 := iv14_4 hS0.1 ta1 c46
  have p48 := pre12 _ d2
  rw [c46] at p48
  obtain ⟨v49, c50⟩ : ∃ v, I0 a1 5 = v := ⟨_, rfl⟩
  have b51 := iv14_5 hW0 ta1 c50
  have p52 := pre13 _ d2
  rw [c50] at p52
  obtain ⟨v53, c54⟩ : ∃ v, I0 a1 6 = v := ⟨_, rfl⟩
  have b55 := iv14_6 hW0 ta1 c54
  have p56 := pre14 _ d2
  rw [c54] at p56
  obtain ⟨v57, c58⟩ : ∃ v, I0 a1 9 = v := ⟨_, rfl⟩
  have b59 := iv14_9 hW0 ta1 c58
  have p60 := pre15 _ d2
  rw [c58] at p60
  have p61 := pre16
  have p62 := pre17
  have p63 := pre18
  have p64 := pre19
  have p65 := pre20
  have p66 := pre21
  have p67 := pre22
  have p68 := pre23
  have p69 := pre24
  have p70 := pre25
  obtain ⟨v71, c72⟩ : ∃ v, I0 a0 13 = v := ⟨_, rfl⟩
  have hM0 := hN _ d2
  have hO0 : FrO 14 a1 T I0 I0 := FrO.rf
  have hF := lnF_ch gB gQ gs
  have hP := lnP_ch gB gQ gs
  have p73 := p61
  unfold Q7M at p73
  replace hF := hF.neg (by omega)
  replace hP := hP.neg (by omega)
  replace hF := hF.neg (by omega)
  replace hP := hP.neg (by omega)
  replace hF := hF.neg (by omega)
  replace hP := hP.neg (by omega)
  replace hF := hF.neg (by omega)
  replace hP := hP.neg (by omega)
  clear p73
  obtain ⟨w74, w75, w76, w77, w78, w79, w80, w81, w82, w83, w84, w85⟩ := lnl_7 (B := gB) (Q := gQ) (s := gs) (by omega)
  replace hF := hF.to w74 (tuF_cx gB gQ (tkN gB gs))
  replace hP := hP.to w75 (tuP_cx gB gQ (tkN gB gs))
  have kdx : tkd gB (tkN gB (tkN gB gs)) = x2.toInt := by omega
  replace hF := hF.neg (by omega)
  replace hP := hP.neg (by omega)
  replace hF := hF.neg (by omega)
  replace hP := hP.neg (by omega)
  replace hF := hF.neg (by omega)
  replace hP := hP.neg (by omega)
  refine tr_aload_n dX12_readTurner_84 hl0 ?_
  refine tr_ldcwS dX12_readTurner_85 ld12_324 ?_
  refine q_iconst dX12_readTurner_88 (by decide) ?_
  intro v86 h87
  refine tr_aload_n dX12_readTurner_89 hl0 ?_
  refine tr_getR dX12_readTurner_90 fl12_188 (kR15 hS0.1 ta0) d2 ?_
  refine q_getI dX12_readTurner_93 fl12_192 (kR14 hS0.1 ta1) c30 ?_
  refine q_iconst dX12_readTurner_96 (by decide) ?_
  intro v88 h89
  refine q_isubE dX12_readTurner_97 (by intros; omega) ?_
  intro v90 h91
  refine q_callVi hE (M' := mX12_readPart) (as := [_, _, _]) dX12_readTurner_98 lk12_249 inX12_readPart seX12_readPart myX12_readPart (by decide) ⟨by decide, by decide⟩ rfl (kR15 hS0.1 ta0) (Nat.le_of_ble_eq_true rfl) rfl rfl (by decide) (by decide) (fk_X12_readPart hS0.1 (gB) ((tkN gB (tkN gB (tkN gB gs)))) ta0 (by decide) (TxA.kp hT hS0 ta0 rfl rfl rfl (by decide +kernel) (by decide +kernel)) (by (try rw [c4]); first | done | with_reducible assumption | omega) (by (try rw [c4]); first | done | with_reducible assumption | omega) (by (try rw [c9]); first | done | with_reducible assumption | omega) (by (try rw [c13]); first | done | with_reducible assumption | omega) (by (try rw [c16]); first | done | assumption) (by (try rw [c19]); first | done | assumption) (by (try rw [c22]); first | done | assumption) (by (try rw [c26]); first | done | with_reducible assumption | omega)) ?_
  rintro v97 cn' K' N' I92 R93 L94 ⟨rfl, rfl, rfl, rfl, g95, dj98, -⟩
  (try rw [pk_13] at dj98)
  have hM99 : NmM I92 R0 L0 a1 gQ := NmM.kpS hM0 g95 hS0.1 ta1 (by decide +kernel) (by decide +kernel)
  have hS100 := hS0.tr g95 (by decide +kernel) (by decide +kernel)
  have c101 : I92 a1 4 = v45 := (g95.cell ta1 (by decide +kernel)).trans c46
  have hO102 : FrO 14 a1 T I0 I92 := hO0.st g95 (by decide +kernel)
  rcases dj98 with ⟨p103, p104, p105, p106, p107, p108, p109, p110, p111, p112, p113, p114, p115, p116, gl117, -⟩ | ⟨p118, p119, p120, p121, p122, -⟩ | ⟨p123, p124, p125, p126, p127, p128, p129, -⟩ | ⟨p130, p131, p132, p133, p134, p135, p136, p137, -⟩
  · skip
    have hL138 := hL0.tr gl117 (by decide +kernel)
    have hM139 : NmM I92 R0 L94 a1 gQ := NmM.kpL hM99 gl117 hS100.1 ta1 (by decide +kernel)
    obtain ⟨v140, c141⟩ : ∃ v, I92 a0 13 = v := ⟨_, rfl⟩
    rw [c141] at p109
    rw [c72] at p109
    obtain ⟨v142, c143⟩ : ∃ v, I92 a0 9 = v := ⟨_, rfl⟩
    have b144 := iv15_9 hS100.1 ta0 c143
    rw [c143] at p110
    rw [c143] at p111
    obtain ⟨v145, c146⟩ : ∃ v, I92 a0 10 = v := ⟨_, rfl⟩
    have b147 := iv15_10 hS100.1 ta0 c146
    rw [c146] at p112
    obtain ⟨v148, c149⟩ : ∃ v, I92 a0 11 = v := ⟨_, rfl⟩
    rw [c149] at p113
    obtain ⟨y150, c151⟩ : ∃ v, L94 a0 15 = v := ⟨_, rfl⟩
    rw [c151] at p114
    obtain ⟨v152, c153⟩ : ∃ v, I92 a0 12 = v := ⟨_, rfl⟩
    rw [c153] at p115
    obtain ⟨v154, c155⟩ : ∃ v, I92 a0 8 = v := ⟨_, rfl⟩
    have b156 := iv15_8 hS100.1 ta0 c155
    rw [c155] at p116
    replace hF := hF.neg (by omega)
    replace hP := hP.neg (by omega)
    replace hF := hF.neg (by omega)
    replace hP := hP.neg (by omega)
    replace hF := hF.neg (by omega)
    replace hP := hP.neg (by omega)
    refine tr_istore dX12_readTurner_101 (by decide) (by decide) ?_
    refine tr_aload_n dX12_readTurner_103 hl0 ?_
    refine tr_ldcwS dX12_readTurner_104 ld12_272 ?_
    refine tr_iload dX12_readTurner_107 rfl ?_
    refine q_iconst dX12_readTurner_109 (by decide) ?_
    intro v157 h158
    refine q_iaddE dX12_readTurner_110 (by intros; omega) ?_
    intro v159 h160
    refine tr_aload_n dX12_readTurner_111 hl0 ?_
    refine tr_getR dX12_readTurner_112 fl12_188 (kR15 hS100.1 ta0) d2 ?_
    refine q_getI dX12_readTurner_115 fl12_192 (kR14 hS100.1 ta1) ((hS100.cell ta1 (by decide +kernel)).trans c30) ?_
    refine q_callVi hE (M' := mX12_readPart) (as := [_, _, _]) dX12_readTurner_118 lk12_249 inX12_readPart seX12_readPart myX12_readPart (by decide) ⟨by decide, by decide⟩ rfl (kR15 hS100.1 ta0) (Nat.le_of_ble_eq_true rfl) rfl rfl (by decide) (by decide) (fk_X12_readPart hS100.1 (gB) ((tkN gB (tkN gB (tkN gB (tkN gB (tkN gB gs)))))) ta0 (by decide) (TxA.kp hT hS100 ta0 rfl rfl rfl (by decide +kernel) (by decide +kernel)) (by (try rw [c143]); first | done | with_reducible assumption | omega) (by (try rw [c143]); first | done | with_reducible assumption | omega) (by (try rw [c146]); first | done | with_reducible assumption | omega) (by (try rw [c149]); first | done | with_reducible assumption | omega) (by (try rw [c151]); first | done | assumption) (by (try rw [c153]); first | done | assumption) (by (try rw [c155]); first | done | assumption) (by (try rw [((hS100.cell ta0 (by decide +kernel)).trans c26)]); first | done | with_reducible assumption | omega)) ?_
    rintro v166 cn' K' N' I161 R162 L163 ⟨rfl, rfl, rfl, rfl, g164, dj167, -⟩
    (try rw [pk_25] at dj167)
    have hM168 : NmM I161 R0 L94 a1 gQ := NmM.kpS hM139 g164 hS100.1 ta1 (by decide +kernel) (by decide +kernel)
    have hS169 := hS100.tr g164 (by decide +kernel) (by decide +kernel)
    have c170 : I161 a1 4 = v45 := (g164.cell ta1 (by decide +kernel)).trans c101
    have hO171 : FrO 14 a1 T I0 I161 := hO102.st g164 (by decide +kernel)
    rcases dj167 with ⟨p172, p173, p174, p175, p176, p177, p178, p179, p180, p181, p182, p183, p184, p185, gl186, -⟩ | ⟨p187, p188, p189, p190, p191, -⟩ | ⟨p192, p193, p194, p195, p196, p197, p198, -⟩ | ⟨p199, p200, p201, p202, p203, p204, p205, p206, -⟩
    · skip
      have hL207 := hL138.tr gl186 (by decide +kernel)
      have hM208 : NmM I161 R0 L163 a1 gQ := NmM.kpL hM168 gl186 hS169.1 ta1 (by decide +kernel)
      obtain ⟨v209, c210⟩ : ∃ v, I161 a0 13 = v := ⟨_, rfl⟩
      rw [c210] at p178
      rw [c141] at p178
      obtain ⟨v211, c212⟩ : ∃ v, I161 a0 9 = v := ⟨_, rfl⟩
      have b213 := iv15_9 hS169.1 ta0 c212
      rw [c212] at p179
      rw [c212] at p180
      obtain ⟨v214, c215⟩ : ∃ v, I161 a0 10 = v := ⟨_, rfl⟩
      have b216 := iv15_10 hS169.1 ta0 c215
      rw [c215] at p181
      obtain ⟨v217, c218⟩ : ∃ v, I161 a0 11 = v := ⟨_, rfl⟩
      rw [c218] at p182
      obtain ⟨y219, c220⟩ : ∃ v, L163 a0 15 = v := ⟨_, rfl⟩
      rw [c220] at p183
      obtain ⟨v221, c222⟩ : ∃ v, I161 a0 12 = v := ⟨_, rfl⟩
      rw [c222] at p184
      obtain ⟨v223, c224⟩ : ∃ v, I161 a0 8 = v := ⟨_, rfl⟩
      have b225 := iv15_8 hS169.1 ta0 c224
      rw [c224] at p185
      replace hF := hF.neg (by omega)
      replace hP := hP.neg (by omega)
      replace hF := hF.neg (by omega)
      replace hP := hP.neg (by omega)
      replace hF := hF.neg (by omega)
      replace hP := hP.neg (by omega)
      refine tr_istore dX12_readTurner_121 (by decide) (by decide) ?_
      refine tr_aload_n dX12_readTurner_123 hl0 ?_
      refine tr_ldcwS dX12_readTurner_124 ld12_325 ?_
      refine q_iconst dX12_readTurner_127 (by decide) ?_
      intro v226 h227
      refine q_bipush dX12_readTurner_128 (by decide +kernel) ?_
      intro v228 h229
      refine q_callVi hE (M' := mX12_readPart) (as := [_, _, _]) dX12_readTurner_130 lk12_249 inX12_readPart seX12_readPart myX12_readPart (by decide) ⟨by decide, by decide⟩ rfl (kR15 hS169.1 ta0) (Nat.le_of_ble_eq_true rfl) rfl rfl (by decide) (by decide) (fk_X12_readPart hS169.1 (gB) ((tkN gB (tkN gB (tkN gB (tkN gB (tkN gB (tkN gB (tkN gB gs)))))))) ta0 (by decide) (TxA.kp hT hS169 ta0 rfl rfl rfl (by decide +kernel) (by decide +kernel)) (by (try rw [c212]); first | done | with_reducible assumption | omega) (by (try rw [c212]); first | done | with_reducible assumption | omega) (by (try rw [c215]); first | done | with_reducible assumption | omega) (by (try rw [c218]); first | done | with_reducible assumption | omega) (by (try rw [c220]); first | done | assumption) (by (try rw [c222]); first | done | assumption) (by (try rw [c224]); first | done | assumption) (by (try rw [((hS169.cell ta0 (by decide +kernel)).trans c26)]); first | done | with_reducible assumption | omega)) ?_
      rintro v235 cn' K' N' I230 R231 L232 ⟨rfl, rfl, rfl, rfl, g233, dj236, -⟩
      (try rw [pk_14] at dj236)
      have hM237 : NmM I230 R0 L163 a1 gQ := NmM.kpS hM208 g233 hS169.1 ta1 (by decide +kernel) (by decide +kernel)
      have hS238 := hS169.tr g233 (by decide +kernel) (by decide +kernel)
      have c239 : I230 a1 4 = v45 := (g233.cell ta1 (by decide +kernel)).trans c170
      have hO240 : FrO 14 a1 T I0 I230 := hO171.st g233 (by decide +kernel)
      rcases dj236 with ⟨p241, p242, p243, p244, p245, p246, p247, p248, p249, p250, p251, p252, p253, p254, gl255, -⟩ | ⟨p256, p257, p258, p259, p260, -⟩ | ⟨p261, p262, p263, p264, p265, p266, p267, -⟩ | ⟨p268, p269, p270, p271, p272, p273, p274, p275, -⟩
      · skip
        have hL276 := hL207.tr gl255 (by decide +kernel)
        have hM277 : NmM I230 R0 L232 a1 gQ := NmM.kpL hM237 gl255 hS238.1 ta1 (by decide +kernel)
        obtain ⟨v278, c279⟩ : ∃ v, I230 a0 13 = v := ⟨_, rfl⟩
        rw [c279] at p247
        rw [c210] at p247
        obtain ⟨v280, c281⟩ : ∃ v, I230 a0 9 = v := ⟨_, rfl⟩
        have b282 := iv15_9 hS238.1 ta0 c281
        rw [c281] at p248
        rw [c281] at p249
        obtain ⟨v283, c284⟩ : ∃ v, I230 a0 10 = v := ⟨_, rfl⟩
        have b285 := iv15_10 hS238.1 ta0 c284
        rw [c284] at p250
        obtain ⟨v286, c287⟩ : ∃ v, I230 a0 11 = v := ⟨_, rfl⟩
        rw [c287] at p251
        obtain ⟨y288, c289⟩ : ∃ v, L232 a0 15 = v := ⟨_, rfl⟩
        rw [c289] at p252
        obtain ⟨v290, c291⟩ : ∃ v, I230 a0 12 = v := ⟨_, rfl⟩
        rw [c291] at p253
        obtain ⟨v292, c293⟩ : ∃ v, I230 a0 8 = v := ⟨_, rfl⟩
        have b294 := iv15_8 hS238.1 ta0 c293
        rw [c293] at p254
        replace hF := hF.neg (by omega)
        replace hP := hP.neg (by omega)
        replace hF := hF.neg (by omega)
        replace hP := hP.neg (by omega)
        replace hF := hF.neg (by omega)
        replace hP := hP.neg (by omega)
        refine tr_istore dX12_readTurner_133 (by decide) (by decide) ?_
        refine tr_aload_n dX12_readTurner_135 hl0 ?_
        refine tr_ldcwS dX12_readTurner_136 ld12_327 ?_
        refine q_iconst dX12_readTurner_139 (by decide) ?_
        intro v295 h296
        refine q_bipush dX12_readTurner_140 (by decide +kernel) ?_
        intro v297 h298
        refine q_callVi hE (M' := mX12_readPart) (as := [_, _, _]) dX12_readTurner_142 lk12_249 inX12_readPart seX12_readPart myX12_readPart (by decide) ⟨by decide, by decide⟩ rfl (kR15 hS238.1 ta0) (Nat.le_of_ble_eq_true rfl) rfl rfl (by decide) (by decide) (fk_X12_readPart hS238.1 (gB) ((tkN gB (tkN gB (tkN gB (tkN gB (tkN gB (tkN gB (tkN gB (tkN gB (tkN gB gs)))))))))) ta0 (by decide) (TxA.kp hT hS238 ta0 rfl rfl rfl (by decide +kernel) (by decide +kernel)) (by (try rw [c281]); first | done | with_reducible assumption | omega) (by (try rw [c281]); first | done | with_reducible assumption | omega) (by (try rw [c284]); first | done | with_reducible assumption | omega) (by (try rw [c287]); first | done | with_reducible assumption | omega) (by (try rw [c289]); first | done | assumption) (by (try rw [c291]); first | done | assumption) (by (try rw [c293]); first | done | assumption) (by (try rw [((hS238.cell ta0 (by decide +kernel)).trans c26)]); first | done | with_reducible assumption | omega)) ?_
        rintro v304 cn' K' N' I299 R300 L301 ⟨rfl, rfl, rfl, rfl, g302, dj305, -⟩
        (try rw [pk_24] at dj305)
        have hM306 : NmM I299 R0 L232 a1 gQ := NmM.kpS hM277 g302 hS238.1 ta1 (by decide +kernel) (by decide +kernel)
        have hS307 := hS238.tr g302 (by decide +kernel) (by decide +kernel)
        have c308 : I299 a1 4 = v45 := (g302.cell ta1 (by decide +kernel)).trans c239
        have hO309 : FrO 14 a1 T I0 I299 := hO240.st g302 (by decide +kernel)
        rcases dj305 with ⟨p310, p311, p312, p313, p314, p315, p316, p317, p318, p319, p320, p321, p322, p323, gl324, -⟩ | ⟨p325, p326, p327, p328, p329, -⟩ | ⟨p330, p331, p332, p333, p334, p335, p336, -⟩ | ⟨p337, p338, p339, p340, p341, p342, p343, p344, -⟩
        · skip
          have hL345 := hL276.tr gl324 (by decide +kernel)
          have hM346 : NmM I299 R0 L301 a1 gQ := NmM.kpL hM306 gl324 hS307.1 ta1 (by decide +kernel)
          obtain ⟨v347, c348⟩ : ∃ v, I299 a0 13 = v := ⟨_, rfl⟩
          rw [c348] at p316
          rw [c279] at p316
          obtain ⟨v349, c350⟩ : ∃ v, I299 a0 9 = v := ⟨_, rfl⟩
          have b351 := iv15_9 hS307.1 ta0 c350
          rw [c350] at p317
          rw [c350] at p318
          obtain ⟨v352, c353⟩ : ∃ v, I299 a0 10 = v := ⟨_, rfl⟩
          have b354 := iv15_10 hS307.1 ta0 c353
          rw [c353] at p319
          obtain ⟨v355, c356⟩ : ∃ v, I299 a0 11 = v := ⟨_, rfl⟩
          rw [c356] at p320
          obtain ⟨y357, c358⟩ : ∃ v, L301 a0 15 = v := ⟨_, rfl⟩
          rw [c358] at p321
          obtain ⟨v359, c360⟩ : ∃ v, I299 a0 12 = v := ⟨_, rfl⟩
          rw [c360] at p322
          obtain ⟨v361, c362⟩ : ∃ v, I299 a0 8 = v := ⟨_, rfl⟩
          have b363 := iv15_8 hS307.1 ta0 c362
          rw [c362] at p323
          replace hF := hF.neg (by omega)
          replace hP := hP.neg (by omega)
          replace hF := hF.neg (by omega)
          replace hP := hP.neg (by omega)
          replace hF := hF.neg (by omega)
          replace hP := hP.neg (by omega)
          refine tr_istore dX12_readTurner_145 (by decide) (by decide) ?_
          refine tr_aload_n dX12_readTurner_147 hl0 ?_
          refine tr_ldcS dX12_readTurner_148 ld12_253 ?_
          refine q_callVv hE (M' := mX12_needs) (as := [_]) dX12_readTurner_150 lk12_157 inX12_needs seX12_needs myX12_needs (by decide) ⟨by decide, by decide⟩ rfl (kR15 hS307.1 ta0) (Nat.le_of_ble_eq_true rfl) rfl rfl (by decide) (by decide) (fk_X12_needs hS307.1 (gB) ((tkN gB (tkN gB (tkN gB (tkN gB (tkN gB (tkN gB (tkN gB (tkN gB (tkN gB (tkN gB (tkN gB gs)))))))))))) ta0 (by decide) (TxA.kp hT hS307 ta0 rfl rfl rfl (by decide +kernel) (by decide +kernel)) (by (try rw [c350]); first | done | with_reducible assumption | omega) (by (try rw [c350]); first | done | with_reducible assumption | omega) (by (try rw [c353]); first | done | with_reducible assumption | omega) (by (try rw [c356]); first | done | with_reducible assumption | omega) (by (try rw [c358]); first | done | assumption) (by (try rw [c360]); first | done | assumption) (by (try rw [c362]); first | done | assumption) (by (try rw [((hS307.cell ta0 (by decide +kernel)).trans c26)]); first | done | with_reducible assumption | omega)) ?_
          rintro cn' K' N' I364 R365 L366 ⟨rfl, rfl, rfl, rfl, g367, dj370, -⟩
          (try rw [pk_16] at dj370)
          have hM371 : NmM I364 R0 L301 a1 gQ := NmM.kpS hM346 g367 hS307.1 ta1 (by decide +kernel) (by decide +kernel)
          have hS372 := hS307.tr g367 (by decide +kernel) (by decide +kernel)
          have c373 : I364 a1 4 = v45 := (g367.cell ta1 (by decide +kernel)).trans c308
          have hO374 : FrO 14 a1 T I0 I364 := hO309.st g367 (by decide +kernel)
          rcases dj370 with ⟨p375, p376, p377, p378, p379, p380, p381, p382, p383, p384, gl385, -⟩ | ⟨p386, p387, p388, p389, -⟩
          · skip
            have hL390 := hL345.tr gl385 (by decide +kernel)
            have hM391 : NmM I364 R0 L366 a1 gQ := NmM.kpL hM371 gl385 hS372.1 ta1 (by decide +kernel)
            obtain ⟨v392, c393⟩ : ∃ v, I364 a0 13 = v := ⟨_, rfl⟩
            rw [c393] at p377
            rw [c348] at p377
            obtain ⟨v394, c395⟩ : ∃ v, I364 a0 9 = v := ⟨_, rfl⟩
            have b396 := iv15_9 hS372.1 ta0 c395
            rw [c395] at p378
            rw [c395] at p379
            obtain ⟨v397, c398⟩ : ∃ v, I364 a0 10 = v := ⟨_, rfl⟩
            have b399 := iv15_10 hS372.1 ta0 c398
            rw [c398] at p380
            obtain ⟨v400, c401⟩ : ∃ v, I364 a0 11 = v := ⟨_, rfl⟩
            rw [c401] at p381
            obtain ⟨y402, c403⟩ : ∃ v, L366 a0 15 = v := ⟨_, rfl⟩
            rw [c403] at p382
            obtain ⟨v404, c405⟩ : ∃ v, I364 a0 12 = v := ⟨_, rfl⟩
            rw [c405] at p383
            obtain ⟨v406, c407⟩ : ∃ v, I364 a0 8 = v := ⟨_, rfl⟩
            have b408 := iv15_8 hS372.1 ta0 c407
            rw [c407] at p384
            replace hF := hF.neg (by omega)
            replace hP := hP.neg (by omega)
            refine q_iconst dX12_readTurner_153 (by decide) ?_
            intro v409 h410
            refine tr_istore dX12_readTurner_154 (by decide) (by decide) ?_
            refine q_iconst dX12_readTurner_156 (by decide) ?_
            intro v411 h412
            refine tr_istore dX12_readTurner_157 (by decide) (by decide) ?_
            have lp468 : ∀ (fu : Nat) (ls : Nat → Option Value) (v413 : Int32) (v414 : Int32) (I424 : cz_I) (L425 : cz_L) (gs426 : Int) (gr427 : Nat) (gh428 : Int) (v433 : Int32) (v435 : Int32) (v437 : Int32) (v439 : Int32) (v441 : Int32) (y443 : Int64) (v445 : Int32) (v447 : Int32), ls 0 = some (.ref a0) → ls 1 = some (.long y1) → ls 3 = some (.int x2) → ls 4 = some (.int v97) → ls 5 = some (.int v166) → ls 6 = some (.int v235) → ls 7 = some (.int v304) → ls 8 = some (.int v413) → ls 9 = some (.int v414) → St T cn K N 0 wif_tuL wrf_tuL I0 R0 I424 R0 → LgS T wlf_tuL L0 L425 → NmM I424 R0 L425 a1 gQ → FrO 14 a1 T I0 I424 → I424 a0 13 = v433 → I424 a1 4 = v435 → I424 a0 9 = v437 → I424 a0 10 = v439 → I424 a0 11 = v441 → L425 a0 15 = y443 → I424 a0 12 = v445 → I424 a0 8 = v447 → (huF gB gQ gr427 gh428 gs426) = (huF gB gQ 901 0 (tkN gB (tkN gB (tkN gB (tkN gB (tkN gB (tkN gB (tkN gB (tkN gB (tkN gB (tkN gB (tkN gB (tkN gB gs))))))))))))) → (huP gB gQ gr427 gh428 gs426) = (huP gB gQ 901 0 (tkN gB (tkN gB (tkN gB (tkN gB (tkN gB (tkN gB (tkN gB (tkN gB (tkN gB (tkN gB (tkN gB (tkN gB gs))))))))))))) → (huS gB gQ gr427 gh428 gs426) = (huS gB gQ 901 0 (tkN gB (tkN gB (tkN gB (tkN gB (tkN gB (tkN gB (tkN gB (tkN gB (tkN gB (tkN gB (tkN gB (tkN gB gs))))))))))))) → (huV gB gr427 gh428 gs426) = (huV gB 901 0 (tkN gB (tkN gB (tkN gB (tkN gB (tkN gB (tkN gB (tkN gB (tkN gB (tkN gB (tkN gB (tkN gB (tkN gB gs))))))))))))) → v435.toInt = (gQ 4) → v414.toInt = 1 → v413.toInt = (gh428) → (gh428) ≥ 0 → (gh428) ≤ 15 → ((gr427 : Int)) + v439.toInt ≥ 901 → v433.toInt = v71.toInt → v437.toInt = (tkM gB gs426) → v437.toInt ≤ 4 → v439.toInt = (tkS gB gs426) → v441.toInt = (tkG gB gs426) → (AtW ((tkK gB gs426)) (y443.toInt) ((tkW gB gs426))) → (AtV ((tkK gB gs426)) (v445.toInt) ((tkV gB gs426))) → (AtN ((tkK gB gs426)) (v447.toInt) ((tkN gB gs426))) → (RoF rdm T I0 I424) → (-v439.toInt + 900).toNat < fu → Tr X mX12_readTurner 159 ls [] cn K N I424 R0 L425 0 0 := by
              intro fu
              induction fu with
              | zero => intros; rename_i hz; exact absurd hz (Nat.not_lt_zero _)
              | succ fu ih468 =>
                intro ls v413 v414 I424 L425 gs426 gr427 gh428 v433 v435 v437 v439 v441 y443 v445 v447 hl415 hl416 hl417 hl418 hl419 hl420 hl421 hl422 hl423 hS429 hL430 hM431 hO432 c434 c436 c438 c440 c442 c444 c446 c448 g449 g450 g451 g452 g453 g454 g455 g456 g457 g458 g459 g460 g461 g462 g463 g464 g465 g466 rw467 hm468
                have b470 := iv14_4 hS429.1 ta1 c436
                have b471 := iv15_9 hS429.1 ta0 c438
                have b472 := iv15_10 hS429.1 ta0 c440
                have b473 := iv15_8 hS429.1 ta0 c448
                rcases Nat.eq_zero_or_pos gr427 with hz474 | hz474
                · skip
                  subst hz474
                  exfalso; omega
                · skip
                  obtain ⟨gk475, rfl⟩ : ∃ k, gr427 = k + 1 := ⟨gr427 - 1, by omega⟩
                  refine tr_iload dX12_readTurner_159 hl423 ?_
                  refine q_if_eq 227 dX12_readTurner_161 (by decide) (fun h476 => ?_) (fun h476 => ?_)
                  · skip
                    exfalso; omega
                  · skip
                    refine tr_aload_n dX12_readTurner_164 hl415 ?_
                    refine q_getI dX12_readTurner_165 fl12_99 (kR15 hS429.1 ta0) c438 ?_
                    refine q_iconst dX12_readTurner_168 (by decide) ?_
                    intro v477 h478
                    refine q_icmp_eq 227 dX12_readTurner_169 (by decide) (fun h479 => ?_) (fun h479 => ?_)
                    · skip
                      exfalso; omega
                    · skip
                      refine tr_aload_n dX12_readTurner_172 hl415 ?_
                      refine q_iconst dX12_readTurner_173 (by decide) ?_
                      intro v480 h481
                      refine tr_aload_n dX12_readTurner_174 hl415 ?_
                      refine tr_getR dX12_readTurner_175 fl12_188 (kR15 hS429.1 ta0) d2 ?_
                      refine q_getI dX12_readTurner_178 fl12_263 (kR14 hS429.1 ta1) ((hS429.cell ta1 (by decide +kernel)).trans c34) ?_
                      refine q_iconst dX12_readTurner_181 (by decide) ?_
                      intro v482 h483
                      refine q_isubE dX12_readTurner_182 (by intros; omega) ?_
                      intro v484 h485
                      refine q_callVi hE (M' := mX12_bounded) (as := [_, _]) dX12_readTurner_183 lk12_153 inX12_bounded seX12_bounded myX12_bounded (by decide) ⟨by decide, by decide⟩ rfl (kR15 hS429.1 ta0) (Nat.le_of_ble_eq_true rfl) rfl rfl (by decide) (by decide) (fk_X12_bounded hS429.1 (gB) (gs426) ta0 (by (try rw [c438]); first | done | with_reducible assumption | omega) (by (try rw [c438]); first | done | with_reducible assumption | omega) (by (try rw [c440]); first | done | with_reducible assumption | omega) (by (try rw [c442]); first | done | with_reducible assumption | omega) (by (try rw [c444]); first | done | assumption) (by (try rw [c446]); first | done | assumption) (by (try rw [c448]); first | done | assumption)) ?_
                      rintro v491 cn' K' N' I486 R487 L488 ⟨rfl, rfl, rfl, rfl, rfl, g489, dj492, -⟩
                      have hM493 : NmM I486 R0 L425 a1 gQ := NmM.kpS hM431 g489 hS429.1 ta1 (by decide +kernel) (by decide +kernel)
                      have hS494 := hS429.tr g489 (by decide +kernel) (by decide +kernel)
                      have c495 : I486 a1 4 = v435 := (g489.cell ta1 (by decide +kernel)).trans c436
                      have c496 : I486 a0 10 = v439 := (g489.cell ta0 (by decide +kernel)).trans c440
                      have c497 : I486 a0 11 = v441 := (g489.cell ta0 (by decide +kernel)).trans c442
                      have c498 : I486 a0 12 = v445 := (g489.cell ta0 (by decide +kernel)).trans c446
                      have c499 : I486 a0 8 = v447 := (g489.cell ta0 (by decide +kernel)).trans c448
                      have hO500 : FrO 14 a1 T I0 I486 := hO432.st g489 (by decide +kernel)
                      rcases dj492 with ⟨p501, p502, p503, p504, p505, p506, p507, p508, p509, p510, p511, p512, -⟩ | ⟨p513, p514, p515, p516, p517, -⟩ | ⟨p518, p519, p520, p521, p522, p523, -⟩
                      · skip
                        obtain ⟨v524, c525⟩ : ∃ v, I486 a0 13 = v := ⟨_, rfl⟩
                        rw [c525] at p505
                        rw [c434] at p505
                        obtain ⟨v526, c527⟩ : ∃ v, I486 a0 9 = v := ⟨_, rfl⟩
                        have b528 := iv15_9 hS494.1 ta0 c527
                        rw [c527] at p506
                        rw [c527] at p507
                        rw [c496] at p508
                        rw [c497] at p509
                        rw [c444] at p510
                        rw [c498] at p511
                        rw [c499] at p512
                        refine tr_istore dX12_readTurner_186 (by decide) (by decide) ?_
                        refine tr_iload dX12_readTurner_188 hl422 ?_
                        refine tr_iload dX12_readTurner_190 rfl ?_
                        refine q_callSi hE (M' := mX12_has) (as := [_, _]) dX12_readTurner_192 lk12_329 inX12_has myX12_has ⟨by decide, by decide⟩ rfl (Nat.le_of_ble_eq_true rfl) rfl rfl (by decide) (by decide) (f_X12_has   (by omega) (by omega)) ?_
                        rintro v534 cn' K' N' I529 R530 L531 ⟨rfl, rfl, rfl, rfl, rfl, rfl, h535, p536, -⟩
                        rw [show v413.toInt = gh428 by omega, show v491.toInt = tkV gB gs426 by omega] at p536
                        refine q_if_eq 203 dX12_readTurner_195 (by decide) (fun h537 => ?_) (fun h537 => ?_)
                        · skip
                          refine tr_aload_n dX12_readTurner_203 hl415 ?_
                          have p538 := p512 (by omega)
                          refine q_callVv hE (M' := mX12_goesOn) (as := []) dX12_readTurner_204 lk12_142 inX12_goesOn seX12_goesOn myX12_goesOn (by decide) ⟨by decide, by decide⟩ rfl (kR15 hS494.1 ta0) (Nat.le_of_ble_eq_true rfl) rfl rfl (by decide) (by decide) (fk_X12_goesOn hS494.1 (gB) ((tkN gB gs426)) ta0 (TxA.kp hT hS494 ta0 rfl rfl rfl (by decide +kernel) (by decide +kernel)) (by (try rw [c499]); first | done | with_reducible assumption | omega) (by (try rw [((hS494.cell ta0 (by decide +kernel)).trans c26)]); first | done | with_reducible assumption | omega) (by (try rw [c527]); first | done | with_reducible assumption | omega)) ?_
                          rintro cn' K' N' I539 R540 L541 ⟨rfl, rfl, rfl, rfl, g542, gl543, p545, p546, p547, p548, p549, p550, p551, -⟩
                          have hM552 : NmM I539 R0 L425 a1 gQ := NmM.kpS hM493 g542 hS494.1 ta1 (by decide +kernel) (by decide +kernel)
                          have hS553 := hS494.tr g542 (by decide +kernel) (by decide +kernel)
                          have c554 : I539 a1 4 = v435 := (g542.cell ta1 (by decide +kernel)).trans c495
                          have c555 : I539 a0 13 = v524 := (g542.cell ta0 (by decide +kernel)).trans c525
                          have hO556 : FrO 14 a1 T I0 I539 := hO500.st g542 (by decide +kernel)
                          have hL557 := hL430.tr gl543 (by decide +kernel)
                          have hM558 : NmM I539 R0 L541 a1 gQ := NmM.kpL hM552 gl543 hS553.1 ta1 (by decide +kernel)
                          obtain ⟨v559, c560⟩ : ∃ v, I539 a0 9 = v := ⟨_, rfl⟩
                          have b561 := iv15_9 hS553.1 ta0 c560
                          rw [c560] at p545
                          rw [c560] at p546
                          obtain ⟨v562, c563⟩ : ∃ v, I539 a0 10 = v := ⟨_, rfl⟩
                          have b564 := iv15_10 hS553.1 ta0 c563
                          rw [c563] at p547
                          obtain ⟨v565, c566⟩ : ∃ v, I539 a0 11 = v := ⟨_, rfl⟩
                          rw [c566] at p548
                          obtain ⟨y567, c568⟩ : ∃ v, L541 a0 15 = v := ⟨_, rfl⟩
                          rw [c568] at p549
                          obtain ⟨v569, c570⟩ : ∃ v, I539 a0 12 = v := ⟨_, rfl⟩
                          rw [c570] at p550
                          obtain ⟨v571, c572⟩ : ∃ v, I539 a0 8 = v := ⟨_, rfl⟩
                          have b573 := iv15_8 hS553.1 ta0 c572
                          rw [c572] at p551
                          refine tr_iload dX12_readTurner_207 hl422 ?_
                          refine q_iconst dX12_readTurner_209 (by decide) ?_
                          intro v574 h575
                          refine tr_iload dX12_readTurner_210 rfl ?_
                          refine tr_ishl dX12_readTurner_212 ?_
                          refine tr_ior dX12_readTurner_213 ?_
                          obtain ⟨v576, lx577⟩ : ∃ z, z = v413 ||| (v574 <<< (v491 &&& 31)) := ⟨_, rfl⟩
                          rw [← lx577]
                          have p578 : v576.toInt = gh428 + pw (tkV gB gs426) ∧ gh428 + pw (tkV gB gs426) ≤ 15 := by rw [lx577, show gh428 = v413.toInt by omega, show tkV gB gs426 = v491.toInt by omega]; exact hut_or (by omega) (by omega) (by omega) (by rw [show v413.toInt = gh428 by omega, show v491.toInt = tkV gB gs426 by omega]; omega)
                          have p5780 := pw_pos (tkV gB gs426)
                          refine tr_istore dX12_readTurner_214 (by decide) (by decide) ?_
                          refine tr_aload_n dX12_readTurner_216 hl415 ?_
                          refine q_bipush dX12_readTurner_217 (by decide +kernel) ?_
                          intro v579 h580
                          refine q_callVi hE (M' := mX12_eatsSign) (as := [_]) dX12_readTurner_219 lk12_221 inX12_eatsSign seX12_eatsSign myX12_eatsSign (by decide) ⟨by decide, by decide⟩ rfl (kR15 hS553.1 ta0) (Nat.le_of_ble_eq_true rfl) rfl rfl (by decide) (by decide) (fk_X12_eatsSign hS553.1 (gB) ((tkN gB gs426)) ta0 (TxA.kp hT hS553 ta0 rfl rfl rfl (by decide +kernel) (by decide +kernel)) (by (try rw [c560]); first | done | with_reducible assumption | omega) (by (try rw [c560]); first | done | with_reducible assumption | omega) (by (try rw [c563]); first | done | with_reducible assumption | omega) (by (try rw [c566]); first | done | with_reducible assumption | omega) (by (try rw [c568]); first | done | assumption) (by (try rw [c570]); first | done | assumption) (by (try rw [c572]); first | done | assumption) (by (try rw [((hS553.cell ta0 (by decide +kernel)).trans c26)]); first | done | with_reducible assumption | omega) (by first | done | with_reducible assumption | omega)) ?_
                          rintro v586 cn' K' N' I581 R582 L583 ⟨rfl, rfl, rfl, rfl, g584, gl585, h587, dj588, -⟩
                          have hM589 : NmM I581 R0 L541 a1 gQ := NmM.kpS hM558 g584 hS553.1 ta1 (by decide +kernel) (by decide +kernel)
                          have hS590 := hS553.tr g584 (by decide +kernel) (by decide +kernel)
                          have c591 : I581 a1 4 = v435 := (g584.cell ta1 (by decide +kernel)).trans c554
                          have c592 : I581 a0 13 = v524 := (g584.cell ta0 (by decide +kernel)).trans c555
                          have hO593 : FrO 14 a1 T I0 I581 := hO556.st g584 (by decide +kernel)
                          have hL594 := hL557.tr gl585 (by decide +kernel)
                          have hM595 : NmM I581 R0 L583 a1 gQ := NmM.kpL hM589 gl585 hS590.1 ta1 (by decide +kernel)
                          rcases dj588 with ⟨p596, p597, p598, p599, p600, p601, p602, p603, p604, p605, -⟩ | ⟨p606, p607, p608, p609, p610, p611, p612, p613, p614, p615, -⟩
                          · skip
                            rw [c592] at p598
                            rw [c555] at p598
                            obtain ⟨v616, c617⟩ : ∃ v, I581 a0 9 = v := ⟨_, rfl⟩
                            have b618 := iv15_9 hS590.1 ta0 c617
                            rw [c617] at p599
                            rw [c617] at p600
                            obtain ⟨v619, c620⟩ : ∃ v, I581 a0 10 = v := ⟨_, rfl⟩
                            have b621 := iv15_10 hS590.1 ta0 c620
                            rw [c620] at p601
                            obtain ⟨v622, c623⟩ : ∃ v, I581 a0 11 = v := ⟨_, rfl⟩
                            rw [c623] at p602
                            obtain ⟨y624, c625⟩ : ∃ v, L583 a0 15 = v := ⟨_, rfl⟩
                            rw [c625] at p603
                            obtain ⟨v626, c627⟩ : ∃ v, I581 a0 12 = v := ⟨_, rfl⟩
                            rw [c627] at p604
                            obtain ⟨v628, c629⟩ : ∃ v, I581 a0 8 = v := ⟨_, rfl⟩
                            have b630 := iv15_8 hS590.1 ta0 c629
                            rw [c629] at p605
                            refine tr_istore dX12_readTurner_222 (by decide) (by decide) ?_
                            refine tr_goto 159 dX12_readTurner_224 (by decide) ?_
                            have q1 := tkS_nx gB gs426 (by omega)
                            have q2 := tkS_nx gB (tkN gB gs426) (by omega)
                            exact ih468 _ v576 v586 I581 L583 ((tkN gB (tkN gB gs426))) (gk475) ((gh428 + pw (tkV gB gs426))) v524 v435 v616 v619 v622 y624 v626 v628 hl415 hl416 hl417 hl418 hl419 hl420 hl421 rfl rfl hS590 hL594 hM595 hO593 c592 c591 c617 c620 c623 c625 c627 c629 (by rw [← g449]; simp only [huF, ↓reduceIte]; repeat' (first | split | omega)) (by rw [← g450]; simp only [huP, ↓reduceIte]; repeat' (first | split | omega)) (by rw [← g451]; simp only [huS, ↓reduceIte]; repeat' (first | split | omega)) (by rw [← g452]; simp only [huV, ↓reduceIte]; repeat' (first | split | omega)) (by omega) (by omega) (by omega) (by omega) (by omega) (by have q1 := tkS_nx gB gs426 (by omega); have q2 := tkS_nx gB (tkN gB gs426) (by omega); omega) (by omega) (by omega) (by omega) (by omega) (by omega) (by assumption) (by assumption) (by assumption) (((rw467.tr (RoF.st g489 (by decide +kernel))).tr (RoF.st g542 (by decide +kernel))).tr (RoF.st g584 (by decide +kernel))) (by omega)
                          · skip
                            rw [c592] at p608
                            rw [c555] at p608
                            obtain ⟨v631, c632⟩ : ∃ v, I581 a0 9 = v := ⟨_, rfl⟩
                            have b633 := iv15_9 hS590.1 ta0 c632
                            rw [c632] at p609
                            rw [c632] at p610
                            obtain ⟨v634, c635⟩ : ∃ v, I581 a0 10 = v := ⟨_, rfl⟩
                            have b636 := iv15_10 hS590.1 ta0 c635
                            rw [c635] at p611
                            obtain ⟨v637, c638⟩ : ∃ v, I581 a0 11 = v := ⟨_, rfl⟩
                            rw [c638] at p612
                            obtain ⟨y639, c640⟩ : ∃ v, L583 a0 15 = v := ⟨_, rfl⟩
                            rw [c640] at p613
                            obtain ⟨v641, c642⟩ : ∃ v, I581 a0 12 = v := ⟨_, rfl⟩
                            rw [c642] at p614
                            obtain ⟨v643, c644⟩ : ∃ v, I581 a0 8 = v := ⟨_, rfl⟩
                            have b645 := iv15_8 hS590.1 ta0 c644
                            rw [c644] at p615
                            refine tr_istore dX12_readTurner_222 (by decide) (by decide) ?_
                            refine tr_goto 159 dX12_readTurner_224 (by decide) ?_
                            refine tr_iload dX12_readTurner_159 rfl ?_
                            refine q_if_eq 227 dX12_readTurner_161 (by decide) (fun h646 => ?_) (fun h646 => ?_)
                            · skip
                              refine tr_aload_n dX12_readTurner_227 hl415 ?_
                              refine q_getI dX12_readTurner_228 fl12_99 (kR15 hS590.1 ta0) c632 ?_
                              refine q_iconst dX12_readTurner_231 (by decide) ?_
                              intro v647 h648
                              refine q_icmp_ne 236 dX12_readTurner_232 (by decide) (fun h649 => ?_) (fun h649 => ?_)
                              · skip
                                refine tr_aload_n dX12_readTurner_236 hl415 ?_
                                refine tr_getR dX12_readTurner_237 fl12_188 (kR15 hS590.1 ta0) d2 ?_
                                refine q_getI dX12_readTurner_240 fl12_315 (kR14 hS590.1 ta1) c591 ?_
                                refine tr_istore dX12_readTurner_243 (by decide) (by decide) ?_
                                refine tr_aload_n dX12_readTurner_245 hl415 ?_
                                refine tr_lload_n dX12_readTurner_246 hl416 ?_
                                refine q_iconst dX12_readTurner_247 (by decide) ?_
                                intro v650 h651
                                refine tr_iload dX12_readTurner_248 rfl ?_
                                obtain ⟨v653, c654⟩ : ∃ v, I581 a1 7 = v := ⟨_, rfl⟩
                                have b655 := iv14_7 hS590.1 ta1 c654
                                have p652 := hS590.1.2.2.2.2.1 a0 ta0 _ d2
                                rw [c654, ((hS590.cell ta1 (by decide +kernel)).trans c42), c591] at p652
                                refine q_callVv hE (M' := mX12_names) (as := [_, _, _]) dX12_readTurner_250 lk12_293 inX12_names seX12_names myX12_names (by decide) ⟨by decide, by decide⟩ rfl (kR15 hS590.1 ta0) (Nat.le_of_ble_eq_true rfl) rfl rfl (by decide) (by decide) (fk_X12_names hS590.1  ta0 (fun q0 z0 => by obtain rfl := Option.some.inj ((d2).symm.trans z0); (try rw [c654]); first | done | with_reducible assumption | omega) ⟨_, d2⟩) ?_
                                rintro cn' K' N' I656 R657 L658 ⟨rfl, rfl, rfl, rfl, g659, gl660, rp662, rp663, -⟩
                                have hS664 := hS590.tr g659 (by decide +kernel) (by decide +kernel)
                                have c665 : I656 a1 4 = v435 := (g659.cell ta1 (by decide +kernel)).trans c591
                                have c666 : I656 a0 13 = v524 := (g659.cell ta0 (by decide +kernel)).trans c592
                                have c667 : I656 a0 9 = v631 := (g659.cell ta0 (by decide +kernel)).trans c632
                                have c668 : I656 a0 10 = v634 := (g659.cell ta0 (by decide +kernel)).trans c635
                                have c669 : I656 a0 11 = v637 := (g659.cell ta0 (by decide +kernel)).trans c638
                                have c670 : I656 a0 12 = v641 := (g659.cell ta0 (by decide +kernel)).trans c642
                                have c671 : I656 a0 8 = v643 := (g659.cell ta0 (by decide +kernel)).trans c644
                                have hO672 : FrO 14 a1 T I0 I656 := hO593.tr (rp663 _ d2)
                                have hL673 := hL594.tr gl660 (by decide +kernel)
                                have c674 : L658 a0 15 = y639 := (gl660.cell ta0 (by decide +kernel)).trans c640
                                have hM675 := NmM.up7 (B := gB) (s := (tkN gB gs)) hM595 (rp662 _ d2) (by omega) (by omega) (by omega) (by rw [c654]; omega) (by omega) (by omega) (by omega)
                                refine tr_aload_n dX12_readTurner_253 hl415 ?_
                                refine tr_getR dX12_readTurner_254 fl12_188 (kR15 hS664.1 ta0) d2 ?_
                                obtain ⟨a676, d677, ta676⟩ := rf14_20 hW0 ta1
                                refine tr_getR dX12_readTurner_257 fl12_333 (kR14 hS664.1 ta1) d677 ?_
                                refine tr_iload dX12_readTurner_260 rfl ?_
                                refine tr_iload_n dX12_readTurner_262 hl417 ?_
                                refine q_iast dX12_readTurner_263 (kR63 hS664.1 ta676) (ti_in (nR63 hS664.1 ta676) (by omega) (by omega)) hS664 ta676 (iokF rfl) rfl (by rfl) ?_
                                intro I678 hS679 e681 f680
                                have c682 : I678 a1 4 = v435 := (f680 _ _ (fun q => by have z := ta1; rw [q.1, ta676] at z; exact absurd z (by decide))).trans c665
                                have c683 : I678 a0 13 = v524 := (f680 _ _ (fun q => by have z := ta0; rw [q.1, ta676] at z; exact absurd z (by decide))).trans c666
                                have c684 : I678 a0 9 = v631 := (f680 _ _ (fun q => by have z := ta0; rw [q.1, ta676] at z; exact absurd z (by decide))).trans c667
                                have c685 : I678 a0 10 = v634 := (f680 _ _ (fun q => by have z := ta0; rw [q.1, ta676] at z; exact absurd z (by decide))).trans c668
                                have c686 : I678 a0 11 = v637 := (f680 _ _ (fun q => by have z := ta0; rw [q.1, ta676] at z; exact absurd z (by decide))).trans c669
                                have c687 : I678 a0 12 = v641 := (f680 _ _ (fun q => by have z := ta0; rw [q.1, ta676] at z; exact absurd z (by decide))).trans c670
                                have c688 : I678 a0 8 = v643 := (f680 _ _ (fun q => by have z := ta0; rw [q.1, ta676] at z; exact absurd z (by decide))).trans c671
                                have hO689 : FrO 14 a1 T I0 I678 := hO672.put f680 ta676 (Or.inl (by decide))
                                have hM690 : NmM I678 R0 L658 a1 (bdQ gB gQ 7 (tkN gB gs)) := NmM.kp1 hM675 f680 ta676 rfl rfl hS664.1 ta1
                                refine tr_aload_n dX12_readTurner_264 hl415 ?_
                                refine tr_getR dX12_readTurner_265 fl12_188 (kR15 hS679.1 ta0) d2 ?_
                                obtain ⟨a691, d692, ta691⟩ := rf14_21 hW0 ta1
                                refine tr_getR dX12_readTurner_268 fl12_336 (kR14 hS679.1 ta1) d692 ?_
                                refine tr_iload dX12_readTurner_271 rfl ?_
                                refine tr_iload dX12_readTurner_273 hl418 ?_
                                refine q_iast dX12_readTurner_275 (kR64 hS679.1 ta691) (ti_in (nR64 hS679.1 ta691) (by omega) (by omega)) hS679 ta691 (iokF rfl) rfl (by rfl) ?_
                                intro I693 hS694 e696 f695
                                have c697 : I693 a1 4 = v435 := (f695 _ _ (fun q => by have z := ta1; rw [q.1, ta691] at z; exact absurd z (by decide))).trans c682
                                have c698 : I693 a0 13 = v524 := (f695 _ _ (fun q => by have z := ta0; rw [q.1, ta691] at z; exact absurd z (by decide))).trans c683
                                have c699 : I693 a0 9 = v631 := (f695 _ _ (fun q => by have z := ta0; rw [q.1, ta691] at z; exact absurd z (by decide))).trans c684
                                have c700 : I693 a0 10 = v634 := (f695 _ _ (fun q => by have z := ta0; rw [q.1, ta691] at z; exact absurd z (by decide))).trans c685
                                have c701 : I693 a0 11 = v637 := (f695 _ _ (fun q => by have z := ta0; rw [q.1, ta691] at z; exact absurd z (by decide))).trans c686
                                have c702 : I693 a0 12 = v641 := (f695 _ _ (fun q => by have z := ta0; rw [q.1, ta691] at z; exact absurd z (by decide))).trans c687
                                have c703 : I693 a0 8 = v643 := (f695 _ _ (fun q => by have z := ta0; rw [q.1, ta691] at z; exact absurd z (by decide))).trans c688
                                have hO704 : FrO 14 a1 T I0 I693 := hO689.put f695 ta691 (Or.inl (by decide))
                                have hM705 : NmM I693 R0 L658 a1 (bdQ gB gQ 7 (tkN gB gs)) := NmM.kp1 hM690 f695 ta691 rfl rfl hS679.1 ta1
                                refine tr_aload_n dX12_readTurner_276 hl415 ?_
                                refine tr_getR dX12_readTurner_277 fl12_188 (kR15 hS694.1 ta0) d2 ?_
                                obtain ⟨a706, d707, ta706⟩ := rf14_22 hW0 ta1
                                refine tr_getR dX12_readTurner_280 fl12_339 (kR14 hS694.1 ta1) d707 ?_
                                refine tr_iload dX12_readTurner_283 rfl ?_
                                refine tr_iload dX12_readTurner_285 hl419 ?_
                                refine q_iast dX12_readTurner_287 (kR65 hS694.1 ta706) (ti_in (nR65 hS694.1 ta706) (by omega) (by omega)) hS694 ta706 (iokF rfl) rfl (by rfl) ?_
                                intro I708 hS709 e711 f710
                                have c712 : I708 a1 4 = v435 := (f710 _ _ (fun q => by have z := ta1; rw [q.1, ta706] at z; exact absurd z (by decide))).trans c697
                                have c713 : I708 a0 13 = v524 := (f710 _ _ (fun q => by have z := ta0; rw [q.1, ta706] at z; exact absurd z (by decide))).trans c698
                                have c714 : I708 a0 9 = v631 := (f710 _ _ (fun q => by have z := ta0; rw [q.1, ta706] at z; exact absurd z (by decide))).trans c699
                                have c715 : I708 a0 10 = v634 := (f710 _ _ (fun q => by have z := ta0; rw [q.1, ta706] at z; exact absurd z (by decide))).trans c700
                                have c716 : I708 a0 11 = v637 := (f710 _ _ (fun q => by have z := ta0; rw [q.1, ta706] at z; exact absurd z (by decide))).trans c701
                                have c717 : I708 a0 12 = v641 := (f710 _ _ (fun q => by have z := ta0; rw [q.1, ta706] at z; exact absurd z (by decide))).trans c702
                                have c718 : I708 a0 8 = v643 := (f710 _ _ (fun q => by have z := ta0; rw [q.1, ta706] at z; exact absurd z (by decide))).trans c703
                                have hO719 : FrO 14 a1 T I0 I708 := hO704.put f710 ta706 (Or.inl (by decide))
                                have hM720 : NmM I708 R0 L658 a1 (bdQ gB gQ 7 (tkN gB gs)) := NmM.kp1 hM705 f710 ta706 rfl rfl hS694.1 ta1
                                refine tr_aload_n dX12_readTurner_288 hl415 ?_
                                refine tr_getR dX12_readTurner_289 fl12_188 (kR15 hS709.1 ta0) d2 ?_
                                obtain ⟨a721, d722, ta721⟩ := rf14_23 hW0 ta1
                                refine tr_getR dX12_readTurner_292 fl12_342 (kR14 hS709.1 ta1) d722 ?_
                                refine tr_iload dX12_readTurner_295 rfl ?_
                                refine tr_iload dX12_readTurner_297 hl420 ?_
                                refine q_iast dX12_readTurner_299 (kR66 hS709.1 ta721) (ti_in (nR66 hS709.1 ta721) (by omega) (by omega)) hS709 ta721 (iokF rfl) rfl (by rfl) ?_
                                intro I723 hS724 e726 f725
                                have c727 : I723 a1 4 = v435 := (f725 _ _ (fun q => by have z := ta1; rw [q.1, ta721] at z; exact absurd z (by decide))).trans c712
                                have c728 : I723 a0 13 = v524 := (f725 _ _ (fun q => by have z := ta0; rw [q.1, ta721] at z; exact absurd z (by decide))).trans c713
                                have c729 : I723 a0 9 = v631 := (f725 _ _ (fun q => by have z := ta0; rw [q.1, ta721] at z; exact absurd z (by decide))).trans c714
                                have c730 : I723 a0 10 = v634 := (f725 _ _ (fun q => by have z := ta0; rw [q.1, ta721] at z; exact absurd z (by decide))).trans c715
                                have c731 : I723 a0 11 = v637 := (f725 _ _ (fun q => by have z := ta0; rw [q.1, ta721] at z; exact absurd z (by decide))).trans c716
                                have c732 : I723 a0 12 = v641 := (f725 _ _ (fun q => by have z := ta0; rw [q.1, ta721] at z; exact absurd z (by decide))).trans c717
                                have c733 : I723 a0 8 = v643 := (f725 _ _ (fun q => by have z := ta0; rw [q.1, ta721] at z; exact absurd z (by decide))).trans c718
                                have hO734 : FrO 14 a1 T I0 I723 := hO719.put f725 ta721 (Or.inl (by decide))
                                have hM735 : NmM I723 R0 L658 a1 (bdQ gB gQ 7 (tkN gB gs)) := NmM.kp1 hM720 f725 ta721 rfl rfl hS709.1 ta1
                                refine tr_aload_n dX12_readTurner_300 hl415 ?_
                                refine tr_getR dX12_readTurner_301 fl12_188 (kR15 hS724.1 ta0) d2 ?_
                                obtain ⟨a736, d737, ta736⟩ := rf14_24 hW0 ta1
                                refine tr_getR dX12_readTurner_304 fl12_344 (kR14 hS724.1 ta1) d737 ?_
                                refine tr_iload dX12_readTurner_307 rfl ?_
                                refine tr_iload dX12_readTurner_309 hl421 ?_
                                refine q_iast dX12_readTurner_311 (kR67 hS724.1 ta736) (ti_in (nR67 hS724.1 ta736) (by omega) (by omega)) hS724 ta736 (iokF rfl) rfl (by rfl) ?_
                                intro I738 hS739 e741 f740
                                have c742 : I738 a1 4 = v435 := (f740 _ _ (fun q => by have z := ta1; rw [q.1, ta736] at z; exact absurd z (by decide))).trans c727
                                have c743 : I738 a0 13 = v524 := (f740 _ _ (fun q => by have z := ta0; rw [q.1, ta736] at z; exact absurd z (by decide))).trans c728
                                have c744 : I738 a0 9 = v631 := (f740 _ _ (fun q => by have z := ta0; rw [q.1, ta736] at z; exact absurd z (by decide))).trans c729
                                have c745 : I738 a0 10 = v634 := (f740 _ _ (fun q => by have z := ta0; rw [q.1, ta736] at z; exact absurd z (by decide))).trans c730
                                have c746 : I738 a0 11 = v637 := (f740 _ _ (fun q => by have z := ta0; rw [q.1, ta736] at z; exact absurd z (by decide))).trans c731
                                have c747 : I738 a0 12 = v641 := (f740 _ _ (fun q => by have z := ta0; rw [q.1, ta736] at z; exact absurd z (by decide))).trans c732
                                have c748 : I738 a0 8 = v643 := (f740 _ _ (fun q => by have z := ta0; rw [q.1, ta736] at z; exact absurd z (by decide))).trans c733
                                have hO749 : FrO 14 a1 T I0 I738 := hO734.put f740 ta736 (Or.inl (by decide))
                                have hM750 : NmM I738 R0 L658 a1 (bdQ gB gQ 7 (tkN gB gs)) := NmM.kp1 hM735 f740 ta736 rfl rfl hS724.1 ta1
                                refine tr_aload_n dX12_readTurner_312 hl415 ?_
                                refine tr_getR dX12_readTurner_313 fl12_188 (kR15 hS739.1 ta0) d2 ?_
                                obtain ⟨a751, d752, ta751⟩ := rf14_25 hW0 ta1
                                refine tr_getR dX12_readTurner_316 fl12_346 (kR14 hS739.1 ta1) d752 ?_
                                refine tr_iload dX12_readTurner_319 rfl ?_
                                refine tr_iload dX12_readTurner_321 rfl ?_
                                refine q_iast dX12_readTurner_323 (kR68 hS739.1 ta751) (ti_in (nR68 hS739.1 ta751) (by omega) (by omega)) hS739 ta751 (iokF rfl) rfl (by rfl) ?_
                                intro I753 hS754 e756 f755
                                have c757 : I753 a1 4 = v435 := (f755 _ _ (fun q => by have z := ta1; rw [q.1, ta751] at z; exact absurd z (by decide))).trans c742
                                have c758 : I753 a0 13 = v524 := (f755 _ _ (fun q => by have z := ta0; rw [q.1, ta751] at z; exact absurd z (by decide))).trans c743
                                have c759 : I753 a0 9 = v631 := (f755 _ _ (fun q => by have z := ta0; rw [q.1, ta751] at z; exact absurd z (by decide))).trans c744
                                have c760 : I753 a0 10 = v634 := (f755 _ _ (fun q => by have z := ta0; rw [q.1, ta751] at z; exact absurd z (by decide))).trans c745
                                have c761 : I753 a0 11 = v637 := (f755 _ _ (fun q => by have z := ta0; rw [q.1, ta751] at z; exact absurd z (by decide))).trans c746
                                have c762 : I753 a0 12 = v641 := (f755 _ _ (fun q => by have z := ta0; rw [q.1, ta751] at z; exact absurd z (by decide))).trans c747
                                have c763 : I753 a0 8 = v643 := (f755 _ _ (fun q => by have z := ta0; rw [q.1, ta751] at z; exact absurd z (by decide))).trans c748
                                have hO764 : FrO 14 a1 T I0 I753 := hO749.put f755 ta751 (Or.inl (by decide))
                                have hM765 : NmM I753 R0 L658 a1 (bdQ gB gQ 7 (tkN gB gs)) := NmM.kp1 hM750 f755 ta751 rfl rfl hS739.1 ta1
                                refine tr_aload_n dX12_readTurner_324 hl415 ?_
                                refine tr_getR dX12_readTurner_325 fl12_188 (kR15 hS754.1 ta0) d2 ?_
                                refine tr_dup dX12_readTurner_328 rfl ?_
                                refine q_getI dX12_readTurner_329 fl12_315 (kR14 hS754.1 ta1) c757 ?_
                                refine q_iconst dX12_readTurner_332 (by decide) ?_
                                intro v766 h767
                                refine q_iaddE dX12_readTurner_333 (by intros; omega) ?_
                                intro v768 h769
                                refine q_putX dX12_readTurner_334 fl12_315 (kR14 hS754.1 ta1) (Or.inl rfl) hS754 ta1 (by decide +kernel) (hS754.1.putN (d' := 0) ta0 d2 (Or.inr (Or.inr rfl)) (by rw [c757]; omega) (by decide) (by show (0 : Int) ≤ v768.toInt ∧ v768.toInt ≤ (5 : Int); omega)) ?_
                                intro I770 hS771 e772 f773
                                have c774 : I770 a0 13 = v524 := (f773 _ _ (fun q => absurd q.2 (by decide))).trans c758
                                have c775 : I770 a0 9 = v631 := (f773 _ _ (fun q => absurd q.2 (by decide))).trans c759
                                have c776 : I770 a0 10 = v634 := (f773 _ _ (fun q => absurd q.2 (by decide))).trans c760
                                have c777 : I770 a0 11 = v637 := (f773 _ _ (fun q => absurd q.2 (by decide))).trans c761
                                have c778 : I770 a0 12 = v641 := (f773 _ _ (fun q => absurd q.2 (by decide))).trans c762
                                have c779 : I770 a0 8 = v643 := (f773 _ _ (fun q => absurd q.2 (by decide))).trans c763
                                have hO780 : FrO 14 a1 T I0 I770 := hO764.put f773 ta1 (Or.inr rfl)
                                have hM781 : NmM I770 R0 L658 a1 (bdQ gB gQ 7 (tkN gB gs)) := NmM.kp1 hM765 f773 ta1 rfl rfl hS754.1 ta1
                                obtain ⟨v782, c783⟩ : ∃ v, I770 a0 14 = v := ⟨_, rfl⟩
                                have u784 : huF gB gQ 901 0 (tkN gB (tkN gB (tkN gB (tkN gB (tkN gB (tkN gB (tkN gB (tkN gB (tkN gB (tkN gB (tkN gB (tkN gB gs)))))))))))) = 0 := by rw [← g449]; simp only [huF, ↓reduceIte]; repeat' (first | split | omega)
                                have eF := hF.eq
                                have eP := hP.eq
                                have es785 : tuS gB gQ (tkN gB gs) = (tkN gB gs426) := by rw [tuS, ← g451]; simp only [huS, ↓reduceIte]; repeat' (first | split | omega)
                                exact tr_vret hZ dX12_readTurner_337 rfl (by decide) (by decide) (hq _ _ _ ⟨hS771, (fun b hb => (Option.some.inj (d2.symm.trans hb)) ▸ ((((((((((((FrM.ro rw467).st g489 (by decide +kernel)).st g542 (by decide +kernel)).st g584 (by decide +kernel)).st g659 (by decide +kernel)).pu f680 (by decide) (by decide) d677).pu f695 (by decide) (by decide) d692).pu f710 (by decide) (by decide) d707).pu f725 (by decide) (by decide) d722).pu f740 (by decide) (by decide) d737).pu f755 (by decide) (by decide) d752).put f773 ta1 (by decide))), (fun dr hd => (Option.some.inj (d2.symm.trans hd)) ▸ hO780), (Or.inl ⟨(by (try rw [w76]); (try rw [es785]); first | done | with_reducible assumption | omega), (fun q0 z0 => by obtain rfl := Option.some.inj ((d2).symm.trans z0); (try rw [w76]); (try rw [es785]); (try rw [((hS771.cell ta1 (by decide +kernel)).trans c30)]); first | done | with_reducible assumption | omega), (fun q0 z0 => by obtain rfl := Option.some.inj ((d2).symm.trans z0); (try rw [w76]); (try rw [es785]); (try rw [((hS771.cell ta1 (by decide +kernel)).trans c34)]); first | done | with_reducible assumption | omega), (fun q0 z0 => by obtain rfl := Option.some.inj ((d2).symm.trans z0); (try rw [w76]); (try rw [es785]); (try rw [((hS771.cell ta1 (by decide +kernel)).trans c38)]); first | done | with_reducible assumption | omega), (fun q0 z0 => by obtain rfl := Option.some.inj ((d2).symm.trans z0); (try rw [w76]); (try rw [es785]); (try rw [((hS771.cell ta1 (by decide +kernel)).trans c42)]); first | done | with_reducible assumption | omega), (fun q0 z0 => by obtain rfl := Option.some.inj ((d2).symm.trans z0); (try rw [w76]); (try rw [es785]); (try rw [e772]); first | done | with_reducible assumption | omega), (fun q0 z0 => by obtain rfl := Option.some.inj ((d2).symm.trans z0); (try rw [w76]); (try rw [es785]); (try rw [((hS771.cell ta1 (by decide +kernel)).trans c50)]); first | done | with_reducible assumption | omega), (fun q0 z0 => by obtain rfl := Option.some.inj ((d2).symm.trans z0); (try rw [w76]); (try rw [es785]); (try rw [((hS771.cell ta1 (by decide +kernel)).trans c54)]); first | done | with_reducible assumption | omega), (fun q0 z0 => by obtain rfl := Option.some.inj ((d2).symm.trans z0); (try rw [w76]); (try rw [es785]); (try rw [((hS771.cell ta1 (by decide +kernel)).trans c58)]); first | done | with_reducible assumption | omega), (by (try rw [w76]); (try rw [es785]); (try rw [c774]); (try rw [c72]); first | done | with_reducible assumption | omega), (by (try rw [w76]); (try rw [es785]); (try rw [c775]); first | done | with_reducible assumption | omega), (by (try rw [w76]); (try rw [es785]); (try rw [c775]); first | done | with_reducible assumption | omega), (by (try rw [w76]); (try rw [es785]); (try rw [c776]); first | done | with_reducible assumption | omega), (by (try rw [w76]); (try rw [es785]); (try rw [c777]); first | done | with_reducible assumption | omega), (by (try rw [w76]); (try rw [es785]); (try rw [c674]); first | done | assumption), (by (try rw [w76]); (try rw [es785]); (try rw [c778]); first | done | assumption), (by (try rw [w76]); (try rw [es785]); (try rw [c779]); first | done | assumption), hL673, (fun b hb => (Option.some.inj (d2.symm.trans hb)) ▸ NmM.ln hM781 (by omega)), (fun E b hb hE => by obtain rfl := Option.some.inj (d2.symm.trans hb); exact AlM.tu hE hW0 ta1 (by omega) (by omega) (by omega) (hS771.cell ta1 (by decide +kernel)) (RoF.st (ex := xr 63 68) hS771 (by decide +kernel)) (fun f hf => match f, hf with | 0, _ => (fun a ha => by obtain rfl := Option.some.inj (d677.symm.trans ha); have zi : v435.toNatClampNeg = (gQ 4).toNat := congrArg Int.toNat (by omega); have ze := (Eq.trans ((f773 _ _ (fun q => by have z := ta676; rw [q.1, ta1] at z; exact absurd z (by decide))).trans ((f755 _ _ (fun q => by have z := ta676; rw [q.1, ta751] at z; exact absurd z (by decide))).trans ((f740 _ _ (fun q => by have z := ta676; rw [q.1, ta736] at z; exact absurd z (by decide))).trans ((f725 _ _ (fun q => by have z := ta676; rw [q.1, ta721] at z; exact absurd z (by decide))).trans ((f710 _ _ (fun q => by have z := ta676; rw [q.1, ta706] at z; exact absurd z (by decide))).trans (f695 _ _ (fun q => by have z := ta676; rw [q.1, ta691] at z; exact absurd z (by decide)))))))) e681); rw [zi] at ze; exact ⟨by rw [ze]; simp only [tuD, ↓reduceIte]; repeat' (first | split | omega), fun j hj => (Eq.trans ((f773 _ _ (fun q => by have z := ta676; rw [q.1, ta1] at z; exact absurd z (by decide))).trans ((f755 _ _ (fun q => by have z := ta676; rw [q.1, ta751] at z; exact absurd z (by decide))).trans ((f740 _ _ (fun q => by have z := ta676; rw [q.1, ta736] at z; exact absurd z (by decide))).trans ((f725 _ _ (fun q => by have z := ta676; rw [q.1, ta721] at z; exact absurd z (by decide))).trans ((f710 _ _ (fun q => by have z := ta676; rw [q.1, ta706] at z; exact absurd z (by decide))).trans ((f695 _ _ (fun q => by have z := ta676; rw [q.1, ta691] at z; exact absurd z (by decide))).trans ((f680 _ _ (fun q => hj (q.2.trans zi))).trans ((g659.cell ta676 (wm_no (by decide +kernel))).trans ((g584.cell ta676 (wm_no (by decide +kernel))).trans ((g542.cell ta676 (wm_no (by decide +kernel))).trans (g489.cell ta676 (wm_no (by decide +kernel))))))))))))) (rw467 _ _ (by rw [ta676]; rfl)))⟩) | 1, _ => (fun a ha => by obtain rfl := Option.some.inj (d692.symm.trans ha); have zi : v435.toNatClampNeg = (gQ 4).toNat := congrArg Int.toNat (by omega); have ze := (Eq.trans ((f773 _ _ (fun q => by have z := ta691; rw [q.1, ta1] at z; exact absurd z (by decide))).trans ((f755 _ _ (fun q => by have z := ta691; rw [q.1, ta751] at z; exact absurd z (by decide))).trans ((f740 _ _ (fun q => by have z := ta691; rw [q.1, ta736] at z; exact absurd z (by decide))).trans ((f725 _ _ (fun q => by have z := ta691; rw [q.1, ta721] at z; exact absurd z (by decide))).trans (f710 _ _ (fun q => by have z := ta691; rw [q.1, ta706] at z; exact absurd z (by decide))))))) e696); rw [zi] at ze; exact ⟨by rw [ze]; simp only [tuD, ↓reduceIte]; repeat' (first | split | omega), fun j hj => (Eq.trans ((f773 _ _ (fun q => by have z := ta691; rw [q.1, ta1] at z; exact absurd z (by decide))).trans ((f755 _ _ (fun q => by have z := ta691; rw [q.1, ta751] at z; exact absurd z (by decide))).trans ((f740 _ _ (fun q => by have z := ta691; rw [q.1, ta736] at z; exact absurd z (by decide))).trans ((f725 _ _ (fun q => by have z := ta691; rw [q.1, ta721] at z; exact absurd z (by decide))).trans ((f710 _ _ (fun q => by have z := ta691; rw [q.1, ta706] at z; exact absurd z (by decide))).trans ((f695 _ _ (fun q => hj (q.2.trans zi))).trans ((f680 _ _ (fun q => by have z := ta691; rw [q.1, ta676] at z; exact absurd z (by decide))).trans ((g659.cell ta691 (wm_no (by decide +kernel))).trans ((g584.cell ta691 (wm_no (by decide +kernel))).trans ((g542.cell ta691 (wm_no (by decide +kernel))).trans (g489.cell ta691 (wm_no (by decide +kernel))))))))))))) (rw467 _ _ (by rw [ta691]; rfl)))⟩) | 2, _ => (fun a ha => by obtain rfl := Option.some.inj (d707.symm.trans ha); have zi : v435.toNatClampNeg = (gQ 4).toNat := congrArg Int.toNat (by omega); have ze := (Eq.trans ((f773 _ _ (fun q => by have z := ta706; rw [q.1, ta1] at z; exact absurd z (by decide))).trans ((f755 _ _ (fun q => by have z := ta706; rw [q.1, ta751] at z; exact absurd z (by decide))).trans ((f740 _ _ (fun q => by have z := ta706; rw [q.1, ta736] at z; exact absurd z (by decide))).trans (f725 _ _ (fun q => by have z := ta706; rw [q.1, ta721] at z; exact absurd z (by decide)))))) e711); rw [zi] at ze; exact ⟨by rw [ze]; simp only [tuD, ↓reduceIte]; repeat' (first | split | omega), fun j hj => (Eq.trans ((f773 _ _ (fun q => by have z := ta706; rw [q.1, ta1] at z; exact absurd z (by decide))).trans ((f755 _ _ (fun q => by have z := ta706; rw [q.1, ta751] at z; exact absurd z (by decide))).trans ((f740 _ _ (fun q => by have z := ta706; rw [q.1, ta736] at z; exact absurd z (by decide))).trans ((f725 _ _ (fun q => by have z := ta706; rw [q.1, ta721] at z; exact absurd z (by decide))).trans ((f710 _ _ (fun q => hj (q.2.trans zi))).trans ((f695 _ _ (fun q => by have z := ta706; rw [q.1, ta691] at z; exact absurd z (by decide))).trans ((f680 _ _ (fun q => by have z := ta706; rw [q.1, ta676] at z; exact absurd z (by decide))).trans ((g659.cell ta706 (wm_no (by decide +kernel))).trans ((g584.cell ta706 (wm_no (by decide +kernel))).trans ((g542.cell ta706 (wm_no (by decide +kernel))).trans (g489.cell ta706 (wm_no (by decide +kernel))))))))))))) (rw467 _ _ (by rw [ta706]; rfl)))⟩) | 3, _ => (fun a ha => by obtain rfl := Option.some.inj (d722.symm.trans ha); have zi : v435.toNatClampNeg = (gQ 4).toNat := congrArg Int.toNat (by omega); have ze := (Eq.trans ((f773 _ _ (fun q => by have z := ta721; rw [q.1, ta1] at z; exact absurd z (by decide))).trans ((f755 _ _ (fun q => by have z := ta721; rw [q.1, ta751] at z; exact absurd z (by decide))).trans (f740 _ _ (fun q => by have z := ta721; rw [q.1, ta736] at z; exact absurd z (by decide))))) e726); rw [zi] at ze; exact ⟨by rw [ze]; simp only [tuD, ↓reduceIte]; repeat' (first | split | omega), fun j hj => (Eq.trans ((f773 _ _ (fun q => by have z := ta721; rw [q.1, ta1] at z; exact absurd z (by decide))).trans ((f755 _ _ (fun q => by have z := ta721; rw [q.1, ta751] at z; exact absurd z (by decide))).trans ((f740 _ _ (fun q => by have z := ta721; rw [q.1, ta736] at z; exact absurd z (by decide))).trans ((f725 _ _ (fun q => hj (q.2.trans zi))).trans ((f710 _ _ (fun q => by have z := ta721; rw [q.1, ta706] at z; exact absurd z (by decide))).trans ((f695 _ _ (fun q => by have z := ta721; rw [q.1, ta691] at z; exact absurd z (by decide))).trans ((f680 _ _ (fun q => by have z := ta721; rw [q.1, ta676] at z; exact absurd z (by decide))).trans ((g659.cell ta721 (wm_no (by decide +kernel))).trans ((g584.cell ta721 (wm_no (by decide +kernel))).trans ((g542.cell ta721 (wm_no (by decide +kernel))).trans (g489.cell ta721 (wm_no (by decide +kernel))))))))))))) (rw467 _ _ (by rw [ta721]; rfl)))⟩) | 4, _ => (fun a ha => by obtain rfl := Option.some.inj (d737.symm.trans ha); have zi : v435.toNatClampNeg = (gQ 4).toNat := congrArg Int.toNat (by omega); have ze := (Eq.trans ((f773 _ _ (fun q => by have z := ta736; rw [q.1, ta1] at z; exact absurd z (by decide))).trans (f755 _ _ (fun q => by have z := ta736; rw [q.1, ta751] at z; exact absurd z (by decide)))) e741); rw [zi] at ze; exact ⟨by rw [ze]; simp only [tuD, ↓reduceIte]; repeat' (first | split | omega), fun j hj => (Eq.trans ((f773 _ _ (fun q => by have z := ta736; rw [q.1, ta1] at z; exact absurd z (by decide))).trans ((f755 _ _ (fun q => by have z := ta736; rw [q.1, ta751] at z; exact absurd z (by decide))).trans ((f740 _ _ (fun q => hj (q.2.trans zi))).trans ((f725 _ _ (fun q => by have z := ta736; rw [q.1, ta721] at z; exact absurd z (by decide))).trans ((f710 _ _ (fun q => by have z := ta736; rw [q.1, ta706] at z; exact absurd z (by decide))).trans ((f695 _ _ (fun q => by have z := ta736; rw [q.1, ta691] at z; exact absurd z (by decide))).trans ((f680 _ _ (fun q => by have z := ta736; rw [q.1, ta676] at z; exact absurd z (by decide))).trans ((g659.cell ta736 (wm_no (by decide +kernel))).trans ((g584.cell ta736 (wm_no (by decide +kernel))).trans ((g542.cell ta736 (wm_no (by decide +kernel))).trans (g489.cell ta736 (wm_no (by decide +kernel))))))))))))) (rw467 _ _ (by rw [ta736]; rfl)))⟩) | 5, _ => (fun a ha => by obtain rfl := Option.some.inj (d752.symm.trans ha); have zi : v435.toNatClampNeg = (gQ 4).toNat := congrArg Int.toNat (by omega); have ze := (Eq.trans (f773 _ _ (fun q => by have z := ta751; rw [q.1, ta1] at z; exact absurd z (by decide))) e756); rw [zi] at ze; exact ⟨by rw [ze]; simp only [tuD, ↓reduceIte]; rw [← g452]; simp only [huV, ↓reduceIte]; repeat' (first | split | omega), fun j hj => (Eq.trans ((f773 _ _ (fun q => by have z := ta751; rw [q.1, ta1] at z; exact absurd z (by decide))).trans ((f755 _ _ (fun q => hj (q.2.trans zi))).trans ((f740 _ _ (fun q => by have z := ta751; rw [q.1, ta736] at z; exact absurd z (by decide))).trans ((f725 _ _ (fun q => by have z := ta751; rw [q.1, ta721] at z; exact absurd z (by decide))).trans ((f710 _ _ (fun q => by have z := ta751; rw [q.1, ta706] at z; exact absurd z (by decide))).trans ((f695 _ _ (fun q => by have z := ta751; rw [q.1, ta691] at z; exact absurd z (by decide))).trans ((f680 _ _ (fun q => by have z := ta751; rw [q.1, ta676] at z; exact absurd z (by decide))).trans ((g659.cell ta751 (wm_no (by decide +kernel))).trans ((g584.cell ta751 (wm_no (by decide +kernel))).trans ((g542.cell ta751 (wm_no (by decide +kernel))).trans (g489.cell ta751 (wm_no (by decide +kernel))))))))))))) (rw467 _ _ (by rw [ta751]; rfl)))⟩) | f + 6, h => absurd h (by omega))), trivial⟩), trivial⟩)
                              · skip
                                exfalso; omega
                            · skip
                              exfalso; omega
                        · skip
                          refine tr_aload_n dX12_readTurner_198 hl415 ?_
                          refine q_iconst dX12_readTurner_199 (by decide) ?_
                          intro v786 h787
                          refine q_callVv hE (M' := mX12_flaw) (as := [_]) dX12_readTurner_200 lk12_145 inX12_flaw seX12_flaw myX12_flaw (by decide) ⟨by decide, by decide⟩ rfl (kR15 hS494.1 ta0) (Nat.le_of_ble_eq_true rfl) rfl rfl (by decide) (by decide) (fk_X12_flaw hS494.1  ta0 (by omega) (by (try rw [c527]); first | done | with_reducible assumption | omega)) ?_
                          rintro cn' K' N' I788 R789 L790 ⟨rfl, rfl, rfl, rfl, rfl, g791, p794, p795, p796, -⟩
                          have hM797 : NmM I788 R0 L425 a1 gQ := NmM.kpS hM493 g791 hS494.1 ta1 (by decide +kernel) (by decide +kernel)
                          have hS798 := hS494.tr g791 (by decide +kernel) (by decide +kernel)
                          have c799 : I788 a1 4 = v435 := (g791.cell ta1 (by decide +kernel)).trans c495
                          have c800 : I788 a0 10 = v439 := (g791.cell ta0 (by decide +kernel)).trans c496
                          have c801 : I788 a0 11 = v441 := (g791.cell ta0 (by decide +kernel)).trans c497
                          have c802 : I788 a0 12 = v445 := (g791.cell ta0 (by decide +kernel)).trans c498
                          have c803 : I788 a0 8 = v447 := (g791.cell ta0 (by decide +kernel)).trans c499
                          have hO804 : FrO 14 a1 T I0 I788 := hO500.st g791 (by decide +kernel)
                          obtain ⟨v805, c806⟩ : ∃ v, I788 a0 9 = v := ⟨_, rfl⟩
                          have b807 := iv15_9 hS798.1 ta0 c806
                          rw [c806] at p794
                          obtain ⟨v808, c809⟩ : ∃ v, I788 a0 13 = v := ⟨_, rfl⟩
                          rw [c809] at p795
                          obtain ⟨v810, c811⟩ : ∃ v, I788 a0 14 = v := ⟨_, rfl⟩
                          rw [c811] at p796
                          rw [c496] at p796
                          refine tr_aload_n dX12_readTurner_203 hl415 ?_
                          refine q_callVv hE (M' := mX12_goesOn) (as := []) dX12_readTurner_204 lk12_142 inX12_goesOn seX12_goesOn myX12_goesOn (by decide) ⟨by decide, by decide⟩ rfl (kR15 hS798.1 ta0) (Nat.le_of_ble_eq_true rfl) rfl rfl (by decide) (by decide) (k_X12_goesOn hS798.1 ta0) ?_
                          rintro cn' K' N' I812 R813 L814 ⟨rfl, rfl, rfl, rfl, g815, p817, p818, p819, w820, -⟩
                          have hS821 := hS798.tr g815 (by decide +kernel) (by decide +kernel)
                          have c822 : I812 a1 4 = v435 := (g815.cell ta1 (by decide +kernel)).trans c799
                          have c823 : I812 a0 13 = v808 := (g815.cell ta0 (by decide +kernel)).trans c809
                          have c824 : I812 a0 14 = v810 := (g815.cell ta0 (by decide +kernel)).trans c811
                          obtain ⟨v825, c826⟩ : ∃ v, I812 a0 9 = v := ⟨_, rfl⟩
                          have b827 := iv15_9 hS821.1 ta0 c826
                          rw [c806] at p817
                          rw [c826] at p817
                          rw [c806] at p818
                          rw [c826] at p818
                          obtain ⟨v828, c829⟩ : ∃ v, I812 a0 8 = v := ⟨_, rfl⟩
                          have b830 := iv15_8 hS821.1 ta0 c829
                          rw [c829] at p819
                          rw [c803] at p819
                          rw [c823] at p819
                          rw [c809] at p819
                          have hO831 : FrO 14 a1 T I0 I812 := hO804.st g815 (by decide +kernel)
                          have ov832 := w820.over (by rw [c806]; omega)
                          obtain ⟨v833, c834⟩ : ∃ v, I812 a0 9 = v := ⟨_, rfl⟩
                          have b835 := iv15_9 hS821.1 ta0 c834
                          obtain ⟨v836, c837⟩ : ∃ v, I812 a0 13 = v := ⟨_, rfl⟩
                          obtain ⟨v838, c839⟩ : ∃ v, I812 a0 14 = v := ⟨_, rfl⟩
                          (try rw [c834] at ov832)
                          (try rw [c837] at ov832)
                          (try rw [c839] at ov832)
                          (try rw [c806] at ov832)
                          (try rw [c809] at ov832)
                          (try rw [c811] at ov832)
                          refine tr_iload dX12_readTurner_207 hl422 ?_
                          refine q_iconst dX12_readTurner_209 (by decide) ?_
                          intro v840 h841
                          refine tr_iload dX12_readTurner_210 rfl ?_
                          refine q_ishlE dX12_readTurner_212 (by omega) (by omega) ?_
                          intro v842 h843
                          refine q_ior dX12_readTurner_213 ?_
                          intro v844
                          refine tr_istore dX12_readTurner_214 (by decide) (by decide) ?_
                          refine tr_aload_n dX12_readTurner_216 hl415 ?_
                          refine q_bipush dX12_readTurner_217 (by decide +kernel) ?_
                          intro v845 h846
                          refine q_callVi hE (M' := mX12_eatsSign) (as := [_]) dX12_readTurner_219 lk12_221 inX12_eatsSign seX12_eatsSign myX12_eatsSign (by decide) ⟨by decide, by decide⟩ rfl (kR15 hS821.1 ta0) (Nat.le_of_ble_eq_true rfl) rfl rfl (by decide) (by decide) (k_X12_eatsSign hS821.1 ta0) ?_
                          rintro v851 cn' K' N' I847 R848 L849 ⟨rfl, rfl, rfl, rfl, g850, h852, p853, p854, w855, -⟩
                          have hS856 := hS821.tr g850 (by decide +kernel) (by decide +kernel)
                          have c857 : I847 a1 4 = v435 := (g850.cell ta1 (by decide +kernel)).trans c822
                          have c858 : I847 a0 13 = v836 := (g850.cell ta0 (by decide +kernel)).trans c837
                          have c859 : I847 a0 14 = v838 := (g850.cell ta0 (by decide +kernel)).trans c839
                          rw [c834] at p853
                          obtain ⟨v860, c861⟩ : ∃ v, I847 a0 8 = v := ⟨_, rfl⟩
                          have b862 := iv15_8 hS856.1 ta0 c861
                          rw [c861] at p854
                          rw [c829] at p854
                          have hO863 : FrO 14 a1 T I0 I847 := hO831.st g850 (by decide +kernel)
                          have ov864 := w855.over (by rw [c834]; omega)
                          obtain ⟨v865, c866⟩ : ∃ v, I847 a0 9 = v := ⟨_, rfl⟩
                          have b867 := iv15_9 hS856.1 ta0 c866
                          obtain ⟨v868, c869⟩ : ∃ v, I847 a0 13 = v := ⟨_, rfl⟩
                          obtain ⟨v870, c871⟩ : ∃ v, I847 a0 14 = v := ⟨_, rfl⟩
                          (try rw [c866] at ov864)
                          (try rw [c869] at ov864)
                          (try rw [c871] at ov864)
                          (try rw [c834] at ov864)
                          (try rw [c837] at ov864)
                          (try rw [c839] at ov864)
                          refine tr_istore dX12_readTurner_222 (by decide) (by decide) ?_
                          refine tr_goto 159 dX12_readTurner_224 (by decide) ?_
                          refine tr_iload dX12_readTurner_159 rfl ?_
                          refine q_if_eq 227 dX12_readTurner_161 (by decide) (fun h872 => ?_) (fun h872 => ?_)
                          · skip
                            refine tr_aload_n dX12_readTurner_227 hl415 ?_
                            refine q_getI dX12_readTurner_228 fl12_99 (kR15 hS856.1 ta0) c866 ?_
                            refine q_iconst dX12_readTurner_231 (by decide) ?_
                            intro v873 h874
                            refine q_icmp_ne 236 dX12_readTurner_232 (by decide) (fun h875 => ?_) (fun h875 => ?_)
                            · skip
                              exfalso; omega
                            · skip
                              have u876 : huF gB gQ 901 0 (tkN gB (tkN gB (tkN gB (tkN gB (tkN gB (tkN gB (tkN gB (tkN gB (tkN gB (tkN gB (tkN gB (tkN gB gs)))))))))))) = v868.toInt := by rw [← g449]; simp only [huF, ↓reduceIte]; repeat' (first | split | omega)
                              have u876p : huP gB gQ 901 0 (tkN gB (tkN gB (tkN gB (tkN gB (tkN gB (tkN gB (tkN gB (tkN gB (tkN gB (tkN gB (tkN gB (tkN gB gs)))))))))))) = v870.toInt := by rw [← g450]; simp only [huP, ↓reduceIte]; repeat' (first | split | omega)
                              have eF := hF.eq
                              have eP := hP.eq
                              obtain ⟨v877, c878⟩ : ∃ v, I847 a0 10 = v := ⟨_, rfl⟩
                              have b879 := iv15_10 hS856.1 ta0 c878
                              obtain ⟨v880, c881⟩ : ∃ v, I847 a0 11 = v := ⟨_, rfl⟩
                              obtain ⟨y882, c883⟩ : ∃ v, L849 a0 15 = v := ⟨_, rfl⟩
                              obtain ⟨v884, c885⟩ : ∃ v, I847 a0 12 = v := ⟨_, rfl⟩
                              exact tr_vret hZ dX12_readTurner_235 rfl (by decide) (by decide) (hq _ _ _ ⟨hS856, (fun b hb => (Option.some.inj (d2.symm.trans hb)) ▸ (((((FrM.ro rw467).st g489 (by decide +kernel)).st g791 (by decide +kernel)).st g815 (by decide +kernel)).st g850 (by decide +kernel))), (fun dr hd => (Option.some.inj (d2.symm.trans hd)) ▸ hO863), (Or.inr (⟨(by (try rw [w76]); first | done | with_reducible assumption | omega), (by (try rw [w76]); (try rw [c866]); first | done | with_reducible assumption | omega), (by (try rw [w76]); (try rw [c869]); first | done | with_reducible assumption | omega), (by (try rw [w76]); (try rw [c871]); first | done | with_reducible assumption | omega), trivial⟩)), trivial⟩)
                          · skip
                            exfalso; omega
                      · skip
                        obtain ⟨v886, c887⟩ : ∃ v, I486 a0 9 = v := ⟨_, rfl⟩
                        have b888 := iv15_9 hS494.1 ta0 c887
                        rw [c887] at p515
                        obtain ⟨v889, c890⟩ : ∃ v, I486 a0 13 = v := ⟨_, rfl⟩
                        rw [c890] at p516
                        obtain ⟨v891, c892⟩ : ∃ v, I486 a0 14 = v := ⟨_, rfl⟩
                        rw [c892] at p517
                        refine tr_istore dX12_readTurner_186 (by decide) (by decide) ?_
                        refine tr_iload dX12_readTurner_188 hl422 ?_
                        refine tr_iload dX12_readTurner_190 rfl ?_
                        refine q_callSi hE (M' := mX12_has) (as := [_, _]) dX12_readTurner_192 lk12_329 inX12_has myX12_has ⟨by decide, by decide⟩ rfl (Nat.le_of_ble_eq_true rfl) rfl rfl (by decide) (by decide) (k_X12_has hS494.1 ) ?_
                        rintro v897 cn' K' N' I893 R894 L895 ⟨rfl, rfl, rfl, rfl, rfl, rfl, h898, -⟩
                        refine q_if_eq 203 dX12_readTurner_195 (by decide) (fun h899 => ?_) (fun h899 => ?_)
                        · skip
                          refine tr_aload_n dX12_readTurner_203 hl415 ?_
                          refine q_callVv hE (M' := mX12_goesOn) (as := []) dX12_readTurner_204 lk12_142 inX12_goesOn seX12_goesOn myX12_goesOn (by decide) ⟨by decide, by decide⟩ rfl (kR15 hS494.1 ta0) (Nat.le_of_ble_eq_true rfl) rfl rfl (by decide) (by decide) (k_X12_goesOn hS494.1 ta0) ?_
                          rintro cn' K' N' I900 R901 L902 ⟨rfl, rfl, rfl, rfl, g903, p905, p906, p907, w908, -⟩
                          have hS909 := hS494.tr g903 (by decide +kernel) (by decide +kernel)
                          have c910 : I900 a1 4 = v435 := (g903.cell ta1 (by decide +kernel)).trans c495
                          have c911 : I900 a0 13 = v889 := (g903.cell ta0 (by decide +kernel)).trans c890
                          have c912 : I900 a0 14 = v891 := (g903.cell ta0 (by decide +kernel)).trans c892
                          obtain ⟨v913, c914⟩ : ∃ v, I900 a0 9 = v := ⟨_, rfl⟩
                          have b915 := iv15_9 hS909.1 ta0 c914
                          rw [c887] at p905
                          rw [c914] at p905
                          rw [c887] at p906
                          rw [c914] at p906
                          obtain ⟨v916, c917⟩ : ∃ v, I900 a0 8 = v := ⟨_, rfl⟩
                          have b918 := iv15_8 hS909.1 ta0 c917
                          rw [c917] at p907
                          rw [c499] at p907
                          rw [c911] at p907
                          rw [c890] at p907
                          have hO919 : FrO 14 a1 T I0 I900 := hO500.st g903 (by decide +kernel)
                          have ov920 := w908.over (by rw [c887]; omega)
                          obtain ⟨v921, c922⟩ : ∃ v, I900 a0 9 = v := ⟨_, rfl⟩
                          have b923 := iv15_9 hS909.1 ta0 c922
                          obtain ⟨v924, c925⟩ : ∃ v, I900 a0 13 = v := ⟨_, rfl⟩
                          obtain ⟨v926, c927⟩ : ∃ v, I900 a0 14 = v := ⟨_, rfl⟩
                          (try rw [c922] at ov920)
                          (try rw [c925] at ov920)
                          (try rw [c927] at ov920)
                          (try rw [c887] at ov920)
                          (try rw [c890] at ov920)
                          (try rw [c892] at ov920)
                          refine tr_iload dX12_readTurner_207 hl422 ?_
                          refine q_iconst dX12_readTurner_209 (by decide) ?_
                          intro v928 h929
                          refine tr_iload dX12_readTurner_210 rfl ?_
                          refine q_ishlE dX12_readTurner_212 (by omega) (by omega) ?_
                          intro v930 h931
                          refine q_ior dX12_readTurner_213 ?_
                          intro v932
                          refine tr_istore dX12_readTurner_214 (by decide) (by decide) ?_
                          refine tr_aload_n dX12_readTurner_216 hl415 ?_
                          refine q_bipush dX12_readTurner_217 (by decide +kernel) ?_
                          intro v933 h934
                          refine q_callVi hE (M' := mX12_eatsSign) (as := [_]) dX12_readTurner_219 lk12_221 inX12_eatsSign seX12_eatsSign myX12_eatsSign (by decide) ⟨by decide, by decide⟩ rfl (kR15 hS909.1 ta0) (Nat.le_of_ble_eq_true rfl) rfl rfl (by decide) (by decide) (k_X12_eatsSign hS909.1 ta0) ?_
                          rintro v939 cn' K' N' I935 R936 L937 ⟨rfl, rfl, rfl, rfl, g938, h940, p941, p942, w943, -⟩
                          have hS944 := hS909.tr g938 (by decide +kernel) (by decide +kernel)
                          have c945 : I935 a1 4 = v435 := (g938.cell ta1 (by decide +kernel)).trans c910
                          have c946 : I935 a0 13 = v924 := (g938.cell ta0 (by decide +kernel)).trans c925
                          have c947 : I935 a0 14 = v926 := (g938.cell ta0 (by decide +kernel)).trans c927
                          rw [c922] at p941
                          obtain ⟨v948, c949⟩ : ∃ v, I935 a0 8 = v := ⟨_, rfl⟩
                          have b950 := iv15_8 hS944.1 ta0 c949
                          rw [c949] at p942
                          rw [c917] at p942
                          have hO951 : FrO 14 a1 T I0 I935 := hO919.st g938 (by decide +kernel)
                          have ov952 := w943.over (by rw [c922]; omega)
                          obtain ⟨v953, c954⟩ : ∃ v, I935 a0 9 = v := ⟨_, rfl⟩
                          have b955 := iv15_9 hS944.1 ta0 c954
                          obtain ⟨v956, c957⟩ : ∃ v, I935 a0 13 = v := ⟨_, rfl⟩
                          obtain ⟨v958, c959⟩ : ∃ v, I935 a0 14 = v := ⟨_, rfl⟩
                          (try rw [c954] at ov952)
                          (try rw [c957] at ov952)
                          (try rw [c959] at ov952)
                          (try rw [c922] at ov952)
                          (try rw [c925] at ov952)
                          (try rw [c927] at ov952)
                          refine tr_istore dX12_readTurner_222 (by decide) (by decide) ?_
                          refine tr_goto 159 dX12_readTurner_224 (by decide) ?_
                          refine tr_iload dX12_readTurner_159 rfl ?_
                          refine q_if_eq 227 dX12_readTurner_161 (by decide) (fun h960 => ?_) (fun h960 => ?_)
                          · skip
                            refine tr_aload_n dX12_readTurner_227 hl415 ?_
                            refine q_getI dX12_readTurner_228 fl12_99 (kR15 hS944.1 ta0) c954 ?_
                            refine q_iconst dX12_readTurner_231 (by decide) ?_
                            intro v961 h962
                            refine q_icmp_ne 236 dX12_readTurner_232 (by decide) (fun h963 => ?_) (fun h963 => ?_)
                            · skip
                              exfalso; omega
                            · skip
                              have u964 : huF gB gQ 901 0 (tkN gB (tkN gB (tkN gB (tkN gB (tkN gB (tkN gB (tkN gB (tkN gB (tkN gB (tkN gB (tkN gB (tkN gB gs)))))))))))) = v956.toInt := by rw [← g449]; simp only [huF, ↓reduceIte]; repeat' (first | split | omega)
                              have u964p : huP gB gQ 901 0 (tkN gB (tkN gB (tkN gB (tkN gB (tkN gB (tkN gB (tkN gB (tkN gB (tkN gB (tkN gB (tkN gB (tkN gB gs)))))))))))) = v958.toInt := by rw [← g450]; simp only [huP, ↓reduceIte]; repeat' (first | split | omega)
                              have eF := hF.eq
                              have eP := hP.eq
                              obtain ⟨v965, c966⟩ : ∃ v, I935 a0 10 = v := ⟨_, rfl⟩
                              have b967 := iv15_10 hS944.1 ta0 c966
                              obtain ⟨v968, c969⟩ : ∃ v, I935 a0 11 = v := ⟨_, rfl⟩
                              obtain ⟨y970, c971⟩ : ∃ v, L937 a0 15 = v := ⟨_, rfl⟩
                              obtain ⟨v972, c973⟩ : ∃ v, I935 a0 12 = v := ⟨_, rfl⟩
                              exact tr_vret hZ dX12_readTurner_235 rfl (by decide) (by decide) (hq _ _ _ ⟨hS944, (fun b hb => (Option.some.inj (d2.symm.trans hb)) ▸ ((((FrM.ro rw467).st g489 (by decide +kernel)).st g903 (by decide +kernel)).st g938 (by decide +kernel))), (fun dr hd => (Option.some.inj (d2.symm.trans hd)) ▸ hO951), (Or.inr (⟨(by (try rw [w76]); first | done | with_reducible assumption | omega), (by (try rw [w76]); (try rw [c954]); first | done | with_reducible assumption | omega), (by (try rw [w76]); (try rw [c957]); first | done | with_reducible assumption | omega), (by (try rw [w76]); (try rw [c959]); first | done | with_reducible assumption | omega), trivial⟩)), trivial⟩)
                          · skip
                            exfalso; omega
                        · skip
                          refine tr_aload_n dX12_readTurner_198 hl415 ?_
                          refine q_iconst dX12_readTurner_199 (by decide) ?_
                          intro v974 h975
                          refine q_callVv hE (M' := mX12_flaw) (as := [_]) dX12_readTurner_200 lk12_145 inX12_flaw seX12_flaw myX12_flaw (by decide) ⟨by decide, by decide⟩ rfl (kR15 hS494.1 ta0) (Nat.le_of_ble_eq_true rfl) rfl rfl (by decide) (by decide) (k_X12_flaw hS494.1 ta0 (by omega)) ?_
                          rintro cn' K' N' I976 R977 L978 ⟨rfl, rfl, rfl, rfl, rfl, g979, p981, p982, w983, -⟩
                          have hS984 := hS494.tr g979 (by decide +kernel) (by decide +kernel)
                          have c985 : I976 a1 4 = v435 := (g979.cell ta1 (by decide +kernel)).trans c495
                          have c986 : I976 a0 10 = v439 := (g979.cell ta0 (by decide +kernel)).trans c496
                          have c987 : I976 a0 11 = v441 := (g979.cell ta0 (by decide +kernel)).trans c497
                          have c988 : I976 a0 12 = v445 := (g979.cell ta0 (by decide +kernel)).trans c498
                          have c989 : I976 a0 8 = v447 := (g979.cell ta0 (by decide +kernel)).trans c499
                          obtain ⟨v990, c991⟩ : ∃ v, I976 a0 9 = v := ⟨_, rfl⟩
                          have b992 := iv15_9 hS984.1 ta0 c991
                          rw [c991] at p981
                          rw [c989] at p982
                          rw [c499] at p982
                          have hO993 : FrO 14 a1 T I0 I976 := hO500.st g979 (by decide +kernel)
                          have ov994 := w983.over (by rw [c887]; omega)
                          obtain ⟨v995, c996⟩ : ∃ v, I976 a0 9 = v := ⟨_, rfl⟩
                          have b997 := iv15_9 hS984.1 ta0 c996
                          obtain ⟨v998, c999⟩ : ∃ v, I976 a0 13 = v := ⟨_, rfl⟩
                          obtain ⟨v1000, c1001⟩ : ∃ v, I976 a0 14 = v := ⟨_, rfl⟩
                          (try rw [c996] at ov994)
                          (try rw [c999] at ov994)
                          (try rw [c1001] at ov994)
                          (try rw [c887] at ov994)
                          (try rw [c890] at ov994)
                          (try rw [c892] at ov994)
                          refine tr_aload_n dX12_readTurner_203 hl415 ?_
                          refine q_callVv hE (M' := mX12_goesOn) (as := []) dX12_readTurner_204 lk12_142 inX12_goesOn seX12_goesOn myX12_goesOn (by decide) ⟨by decide, by decide⟩ rfl (kR15 hS984.1 ta0) (Nat.le_of_ble_eq_true rfl) rfl rfl (by decide) (by decide) (k_X12_goesOn hS984.1 ta0) ?_
                          rintro cn' K' N' I1002 R1003 L1004 ⟨rfl, rfl, rfl, rfl, g1005, p1007, p1008, p1009, w1010, -⟩
                          have hS1011 := hS984.tr g1005 (by decide +kernel) (by decide +kernel)
                          have c1012 : I1002 a1 4 = v435 := (g1005.cell ta1 (by decide +kernel)).trans c985
                          have c1013 : I1002 a0 13 = v998 := (g1005.cell ta0 (by decide +kernel)).trans c999
                          have c1014 : I1002 a0 14 = v1000 := (g1005.cell ta0 (by decide +kernel)).trans c1001
                          obtain ⟨v1015, c1016⟩ : ∃ v, I1002 a0 9 = v := ⟨_, rfl⟩
                          have b1017 := iv15_9 hS1011.1 ta0 c1016
                          rw [c996] at p1007
                          rw [c1016] at p1007
                          rw [c996] at p1008
                          rw [c1016] at p1008
                          obtain ⟨v1018, c1019⟩ : ∃ v, I1002 a0 8 = v := ⟨_, rfl⟩
                          have b1020 := iv15_8 hS1011.1 ta0 c1019
                          rw [c1019] at p1009
                          rw [c989] at p1009
                          rw [c1013] at p1009
                          rw [c999] at p1009
                          have hO1021 : FrO 14 a1 T I0 I1002 := hO993.st g1005 (by decide +kernel)
                          have ov1022 := w1010.over (by rw [c996]; omega)
                          obtain ⟨v1023, c1024⟩ : ∃ v, I1002 a0 9 = v := ⟨_, rfl⟩
                          have b1025 := iv15_9 hS1011.1 ta0 c1024
                          obtain ⟨v1026, c1027⟩ : ∃ v, I1002 a0 13 = v := ⟨_, rfl⟩
                          obtain ⟨v1028, c1029⟩ : ∃ v, I1002 a0 14 = v := ⟨_, rfl⟩
                          (try rw [c1024] at ov1022)
                          (try rw [c1027] at ov1022)
                          (try rw [c1029] at ov1022)
                          (try rw [c996] at ov1022)
                          (try rw [c999] at ov1022)
                          (try rw [c1001] at ov1022)
                          refine tr_iload dX12_readTurner_207 hl422 ?_
                          refine q_iconst dX12_readTurner_209 (by decide) ?_
                          intro v1030 h1031
                          refine tr_iload dX12_readTurner_210 rfl ?_
                          refine q_ishlE dX12_readTurner_212 (by omega) (by omega) ?_
                          intro v1032 h1033
                          refine q_ior dX12_readTurner_213 ?_
                          intro v1034
                          refine tr_istore dX12_readTurner_214 (by decide) (by decide) ?_
                          refine tr_aload_n dX12_readTurner_216 hl415 ?_
                          refine q_bipush dX12_readTurner_217 (by decide +kernel) ?_
                          intro v1035 h1036
                          refine q_callVi hE (M' := mX12_eatsSign) (as := [_]) dX12_readTurner_219 lk12_221 inX12_eatsSign seX12_eatsSign myX12_eatsSign (by decide) ⟨by decide, by decide⟩ rfl (kR15 hS1011.1 ta0) (Nat.le_of_ble_eq_true rfl) rfl rfl (by decide) (by decide) (k_X12_eatsSign hS1011.1 ta0) ?_
                          rintro v1041 cn' K' N' I1037 R1038 L1039 ⟨rfl, rfl, rfl, rfl, g1040, h1042, p1043, p1044, w1045, -⟩
                          have hS1046 := hS1011.tr g1040 (by decide +kernel) (by decide +kernel)
                          have c1047 : I1037 a1 4 = v435 := (g1040.cell ta1 (by decide +kernel)).trans c1012
                          have c1048 : I1037 a0 13 = v1026 := (g1040.cell ta0 (by decide +kernel)).trans c1027
                          have c1049 : I1037 a0 14 = v1028 := (g1040.cell ta0 (by decide +kernel)).trans c1029
                          rw [c1024] at p1043
                          obtain ⟨v1050, c1051⟩ : ∃ v, I1037 a0 8 = v := ⟨_, rfl⟩
                          have b1052 := iv15_8 hS1046.1 ta0 c1051
                          rw [c1051] at p1044
                          rw [c1019] at p1044
                          have hO1053 : FrO 14 a1 T I0 I1037 := hO1021.st g1040 (by decide +kernel)
                          have ov1054 := w1045.over (by rw [c1024]; omega)
                          obtain ⟨v1055, c1056⟩ : ∃ v, I1037 a0 9 = v := ⟨_, rfl⟩
                          have b1057 := iv15_9 hS1046.1 ta0 c1056
                          obtain ⟨v1058, c1059⟩ : ∃ v, I1037 a0 13 = v := ⟨_, rfl⟩
                          obtain ⟨v1060, c1061⟩ : ∃ v, I1037 a0 14 = v := ⟨_, rfl⟩
                          (try rw [c1056] at ov1054)
                          (try rw [c1059] at ov1054)
                          (try rw [c1061] at ov1054)
                          (try rw [c1024] at ov1054)
                          (try rw [c1027] at ov1054)
                          (try rw [c1029] at ov1054)
                          refine tr_istore dX12_readTurner_222 (by decide) (by decide) ?_
                          refine tr_goto 159 dX12_readTurner_224 (by decide) ?_
                          refine tr_iload dX12_readTurner_159 rfl ?_
                          refine q_if_eq 227 dX12_readTurner_161 (by decide) (fun h1062 => ?_) (fun h1062 => ?_)
                          · skip
                            refine tr_aload_n dX12_readTurner_227 hl415 ?_
                            refine q_getI dX12_readTurner_228 fl12_99 (kR15 hS1046.1 ta0) c1056 ?_
                            refine q_iconst dX12_readTurner_231 (by decide) ?_
                            intro v1063 h1064
                            refine q_icmp_ne 236 dX12_readTurner_232 (by decide) (fun h1065 => ?_) (fun h1065 => ?_)
                            · skip
                              exfalso; omega
                            · skip
                              have u1066 : huF gB gQ 901 0 (tkN gB (tkN gB (tkN gB (tkN gB (tkN gB (tkN gB (tkN gB (tkN gB (tkN gB (tkN gB (tkN gB (tkN gB gs)))))))))))) = v1058.toInt := by rw [← g449]; simp only [huF, ↓reduceIte]; repeat' (first | split | omega)
                              have u1066p : huP gB gQ 901 0 (tkN gB (tkN gB (tkN gB (tkN gB (tkN gB (tkN gB (tkN gB (tkN gB (tkN gB (tkN gB (tkN gB (tkN gB gs)))))))))))) = v1060.toInt := by rw [← g450]; simp only [huP, ↓reduceIte]; repeat' (first | split | omega)
                              have eF := hF.eq
                              have eP := hP.eq
                              obtain ⟨v1067, c1068⟩ : ∃ v, I1037 a0 10 = v := ⟨_, rfl⟩
                              have b1069 := iv15_10 hS1046.1 ta0 c1068
                              obtain ⟨v1070, c1071⟩ : ∃ v, I1037 a0 11 = v := ⟨_, rfl⟩
                              obtain ⟨y1072, c1073⟩ : ∃ v, L1039 a0 15 = v := ⟨_, rfl⟩
                              obtain ⟨v1074, c1075⟩ : ∃ v, I1037 a0 12 = v := ⟨_, rfl⟩
                              exact tr_vret hZ dX12_readTurner_235 rfl (by decide) (by decide) (hq _ _ _ ⟨hS1046, (fun b hb => (Option.some.inj (d2.symm.trans hb)) ▸ (((((FrM.ro rw467).st g489 (by decide +kernel)).st g979 (by decide +kernel)).st g1005 (by decide +kernel)).st g1040 (by decide +kernel))), (fun dr hd => (Option.some.inj (d2.symm.trans hd)) ▸ hO1053), (Or.inr (⟨(by (try rw [w76]); first | done | with_reducible assumption | omega), (by (try rw [w76]); (try rw [c1056]); first | done | with_reducible assumption | omega), (by (try rw [w76]); (try rw [c1059]); first | done | with_reducible assumption | omega), (by (try rw [w76]); (try rw [c1061]); first | done | with_reducible assumption | omega), trivial⟩)), trivial⟩)
                          · skip
                            exfalso; omega
                      · skip
                        obtain ⟨v1076, c1077⟩ : ∃ v, I486 a0 9 = v := ⟨_, rfl⟩
                        have b1078 := iv15_9 hS494.1 ta0 c1077
                        rw [c1077] at p521
                        obtain ⟨v1079, c1080⟩ : ∃ v, I486 a0 13 = v := ⟨_, rfl⟩
                        rw [c1080] at p522
                        obtain ⟨v1081, c1082⟩ : ∃ v, I486 a0 14 = v := ⟨_, rfl⟩
                        rw [c1082] at p523
                        refine tr_istore dX12_readTurner_186 (by decide) (by decide) ?_
                        refine tr_iload dX12_readTurner_188 hl422 ?_
                        refine tr_iload dX12_readTurner_190 rfl ?_
                        refine q_callSi hE (M' := mX12_has) (as := [_, _]) dX12_readTurner_192 lk12_329 inX12_has myX12_has ⟨by decide, by decide⟩ rfl (Nat.le_of_ble_eq_true rfl) rfl rfl (by decide) (by decide) (k_X12_has hS494.1 ) ?_
                        rintro v1087 cn' K' N' I1083 R1084 L1085 ⟨rfl, rfl, rfl, rfl, rfl, rfl, h1088, -⟩
                        refine q_if_eq 203 dX12_readTurner_195 (by decide) (fun h1089 => ?_) (fun h1089 => ?_)
                        · skip
                          refine tr_aload_n dX12_readTurner_203 hl415 ?_
                          refine q_callVv hE (M' := mX12_goesOn) (as := []) dX12_readTurner_204 lk12_142 inX12_goesOn seX12_goesOn myX12_goesOn (by decide) ⟨by decide, by decide⟩ rfl (kR15 hS494.1 ta0) (Nat.le_of_ble_eq_true rfl) rfl rfl (by decide) (by decide) (k_X12_goesOn hS494.1 ta0) ?_
                          rintro cn' K' N' I1090 R1091 L1092 ⟨rfl, rfl, rfl, rfl, g1093, p1095, p1096, p1097, w1098, -⟩
                          have hS1099 := hS494.tr g1093 (by decide +kernel) (by decide +kernel)
                          have c1100 : I1090 a1 4 = v435 := (g1093.cell ta1 (by decide +kernel)).trans c495
                          have c1101 : I1090 a0 13 = v1079 := (g1093.cell ta0 (by decide +kernel)).trans c1080
                          have c1102 : I1090 a0 14 = v1081 := (g1093.cell ta0 (by decide +kernel)).trans c1082
                          obtain ⟨v1103, c1104⟩ : ∃ v, I1090 a0 9 = v := ⟨_, rfl⟩
                          have b1105 := iv15_9 hS1099.1 ta0 c1104
                          rw [c1077] at p1095
                          rw [c1104] at p1095
                          rw [c1077] at p1096
                          rw [c1104] at p1096
                          obtain ⟨v1106, c1107⟩ : ∃ v, I1090 a0 8 = v := ⟨_, rfl⟩
                          have b1108 := iv15_8 hS1099.1 ta0 c1107
                          rw [c1107] at p1097
                          rw [c499] at p1097
                          rw [c1101] at p1097
                          rw [c1080] at p1097
                          have hO1109 : FrO 14 a1 T I0 I1090 := hO500.st g1093 (by decide +kernel)
                          have ov1110 := w1098.over (by rw [c1077]; omega)
                          obtain ⟨v1111, c1112⟩ : ∃ v, I1090 a0 9 = v := ⟨_, rfl⟩
                          have b1113 := iv15_9 hS1099.1 ta0 c1112
                          obtain ⟨v1114, c1115⟩ : ∃ v, I1090 a0 13 = v := ⟨_, rfl⟩
                          obtain ⟨v1116, c1117⟩ : ∃ v, I1090 a0 14 = v := ⟨_, rfl⟩
                          (try rw [c1112] at ov1110)
                          (try rw [c1115] at ov1110)
                          (try rw [c1117] at ov1110)
                          (try rw [c1077] at ov1110)
                          (try rw [c1080] at ov1110)
                          (try rw [c1082] at ov1110)
                          refine tr_iload dX12_readTurner_207 hl422 ?_
                          refine q_iconst dX12_readTurner_209 (by decide) ?_
                          intro v1118 h1119
                          refine tr_iload dX12_readTurner_210 rfl ?_
                          refine q_ishlE dX12_readTurner_212 (by omega) (by omega) ?_
                          intro v1120 h1121
                          refine q_ior dX12_readTurner_213 ?_
                          intro v1122
                          refine tr_istore dX12_readTurner_214 (by decide) (by decide) ?_
                          refine tr_aload_n dX12_readTurner_216 hl415 ?_
                          refine q_bipush dX12_readTurner_217 (by decide +kernel) ?_
                          intro v1123 h1124
                          refine q_callVi hE (M' := mX12_eatsSign) (as := [_]) dX12_readTurner_219 lk12_221 inX12_eatsSign seX12_eatsSign myX12_eatsSign (by decide) ⟨by decide, by decide⟩ rfl (kR15 hS1099.1 ta0) (Nat.le_of_ble_eq_true rfl) rfl rfl (by decide) (by decide) (k_X12_eatsSign hS1099.1 ta0) ?_
                          rintro v1129 cn' K' N' I1125 R1126 L1127 ⟨rfl, rfl, rfl, rfl, g1128, h1130, p1131, p1132, w1133, -⟩
                          have hS1134 := hS1099.tr g1128 (by decide +kernel) (by decide +kernel)
                          have c1135 : I1125 a1 4 = v435 := (g1128.cell ta1 (by decide +kernel)).trans c1100
                          have c1136 : I1125 a0 13 = v1114 := (g1128.cell ta0 (by decide +kernel)).trans c1115
                          have c1137 : I1125 a0 14 = v1116 := (g1128.cell ta0 (by decide +kernel)).trans c1117
                          rw [c1112] at p1131
                          obtain ⟨v1138, c1139⟩ : ∃ v, I1125 a0 8 = v := ⟨_, rfl⟩
                          have b1140 := iv15_8 hS1134.1 ta0 c1139
                          rw [c1139] at p1132
                          rw [c1107] at p1132
                          have hO1141 : FrO 14 a1 T I0 I1125 := hO1109.st g1128 (by decide +kernel)
                          have ov1142 := w1133.over (by rw [c1112]; omega)
                          obtain ⟨v1143, c1144⟩ : ∃ v, I1125 a0 9 = v := ⟨_, rfl⟩
                          have b1145 := iv15_9 hS1134.1 ta0 c1144
                          obtain ⟨v1146, c1147⟩ : ∃ v, I1125 a0 13 = v := ⟨_, rfl⟩
                          obtain ⟨v1148, c1149⟩ : ∃ v, I1125 a0 14 = v := ⟨_, rfl⟩
                          (try rw [c1144] at ov1142)
                          (try rw [c1147] at ov1142)
                          (try rw [c1149] at ov1142)
                          (try rw [c1112] at ov1142)
                          (try rw [c1115] at ov1142)
                          (try rw [c1117] at ov1142)
                          refine tr_istore dX12_readTurner_222 (by decide) (by decide) ?_
                          refine tr_goto 159 dX12_readTurner_224 (by decide) ?_
                          refine tr_iload dX12_readTurner_159 rfl ?_
                          refine q_if_eq 227 dX12_readTurner_161 (by decide) (fun h1150 => ?_) (fun h1150 => ?_)
                          · skip
                            refine tr_aload_n dX12_readTurner_227 hl415 ?_
                            refine q_getI dX12_readTurner_228 fl12_99 (kR15 hS1134.1 ta0) c1144 ?_
                            refine q_iconst dX12_readTurner_231 (by decide) ?_
                            intro v1151 h1152
                            refine q_icmp_ne 236 dX12_readTurner_232 (by decide) (fun h1153 => ?_) (fun h1153 => ?_)
                            · skip
                              exfalso; omega
                            · skip
                              have u1154 : huF gB gQ 901 0 (tkN gB (tkN gB (tkN gB (tkN gB (tkN gB (tkN gB (tkN gB (tkN gB (tkN gB (tkN gB (tkN gB (tkN gB gs)))))))))))) = v1146.toInt := by rw [← g449]; simp only [huF, ↓reduceIte]; repeat' (first | split | omega)
                              have u1154p : huP gB gQ 901 0 (tkN gB (tkN gB (tkN gB (tkN gB (tkN gB (tkN gB (tkN gB (tkN gB (tkN gB (tkN gB (tkN gB (tkN gB gs)))))))))))) = v1148.toInt := by rw [← g450]; simp only [huP, ↓reduceIte]; repeat' (first | split | omega)
                              have eF := hF.eq
                              have eP := hP.eq
                              obtain ⟨v1155, c1156⟩ : ∃ v, I1125 a0 10 = v := ⟨_, rfl⟩
                              have b1157 := iv15_10 hS1134.1 ta0 c1156
                              obtain ⟨v1158, c1159⟩ : ∃ v, I1125 a0 11 = v := ⟨_, rfl⟩
                              obtain ⟨y1160, c1161⟩ : ∃ v, L1127 a0 15 = v := ⟨_, rfl⟩
                              obtain ⟨v1162, c1163⟩ : ∃ v, I1125 a0 12 = v := ⟨_, rfl⟩
                              exact tr_vret hZ dX12_readTurner_235 rfl (by decide) (by decide) (hq _ _ _ ⟨hS1134, (fun b hb => (Option.some.inj (d2.symm.trans hb)) ▸ ((((FrM.ro rw467).st g489 (by decide +kernel)).st g1093 (by decide +kernel)).st g1128 (by decide +kernel))), (fun dr hd => (Option.some.inj (d2.symm.trans hd)) ▸ hO1141), (Or.inr (⟨(by (try rw [w76]); first | done | with_reducible assumption | omega), (by (try rw [w76]); (try rw [c1144]); first | done | with_reducible assumption | omega), (by (try rw [w76]); (try rw [c1147]); first | done | with_reducible assumption | omega), (by (try rw [w76]); (try rw [c1149]); first | done | with_reducible assumption | omega), trivial⟩)), trivial⟩)
                          · skip
                            exfalso; omega
                        · skip
                          refine tr_aload_n dX12_readTurner_198 hl415 ?_
                          refine q_iconst dX12_readTurner_199 (by decide) ?_
                          intro v1164 h1165
                          refine q_callVv hE (M' := mX12_flaw) (as := [_]) dX12_readTurner_200 lk12_145 inX12_flaw seX12_flaw myX12_flaw (by decide) ⟨by decide, by decide⟩ rfl (kR15 hS494.1 ta0) (Nat.le_of_ble_eq_true rfl) rfl rfl (by decide) (by decide) (k_X12_flaw hS494.1 ta0 (by omega)) ?_
                          rintro cn' K' N' I1166 R1167 L1168 ⟨rfl, rfl, rfl, rfl, rfl, g1169, p1171, p1172, w1173, -⟩
                          have hS1174 := hS494.tr g1169 (by decide +kernel) (by decide +kernel)
                          have c1175 : I1166 a1 4 = v435 := (g1169.cell ta1 (by decide +kernel)).trans c495
                          have c1176 : I1166 a0 10 = v439 := (g1169.cell ta0 (by decide +kernel)).trans c496
                          have c1177 : I1166 a0 11 = v441 := (g1169.cell ta0 (by decide +kernel)).trans c497
                          have c1178 : I1166 a0 12 = v445 := (g1169.cell ta0 (by decide +kernel)).trans c498
                          have c1179 : I1166 a0 8 = v447 := (g1169.cell ta0 (by decide +kernel)).trans c499
                          obtain ⟨v1180, c1181⟩ : ∃ v, I1166 a0 9 = v := ⟨_, rfl⟩
                          have b1182 := iv15_9 hS1174.1 ta0 c1181
                          rw [c1181] at p1171
                          rw [c1179] at p1172
                          rw [c499] at p1172
                          have hO1183 : FrO 14 a1 T I0 I1166 := hO500.st g1169 (by decide +kernel)
                          have ov1184 := w1173.over (by rw [c1077]; omega)
                          obtain ⟨v1185, c1186⟩ : ∃ v, I1166 a0 9 = v := ⟨_, rfl⟩
                          have b1187 := iv15_9 hS1174.1 ta0 c1186
                          obtain ⟨v1188, c1189⟩ : ∃ v, I1166 a0 13 = v := ⟨_, rfl⟩
                          obtain ⟨v1190, c1191⟩ : ∃ v, I1166 a0 14 = v := ⟨_, rfl⟩
                          (try rw [c1186] at ov1184)
                          (try rw [c1189] at ov1184)
                          (try rw [c1191] at ov1184)
                          (try rw [c1077] at ov1184)
                          (try rw [c1080] at ov1184)
                          (try rw [c1082] at ov1184)
                          refine tr_aload_n dX12_readTurner_203 hl415 ?_
                          refine q_callVv hE (M' := mX12_goesOn) (as := []) dX12_readTurner_204 lk12_142 inX12_goesOn seX12_goesOn myX12_goesOn (by decide) ⟨by decide, by decide⟩ rfl (kR15 hS1174.1 ta0) (Nat.le_of_ble_eq_true rfl) rfl rfl (by decide) (by decide) (k_X12_goesOn hS1174.1 ta0) ?_
                          rintro cn' K' N' I1192 R1193 L1194 ⟨rfl, rfl, rfl, rfl, g1195, p1197, p1198, p1199, w1200, -⟩
                          have hS1201 := hS1174.tr g1195 (by decide +kernel) (by decide +kernel)
                          have c1202 : I1192 a1 4 = v435 := (g1195.cell ta1 (by decide +kernel)).trans c1175
                          have c1203 : I1192 a0 13 = v1188 := (g1195.cell ta0 (by decide +kernel)).trans c1189
                          have c1204 : I1192 a0 14 = v1190 := (g1195.cell ta0 (by decide +kernel)).trans c1191
                          obtain ⟨v1205, c1206⟩ : ∃ v, I1192 a0 9 = v := ⟨_, rfl⟩
                          have b1207 := iv15_9 hS1201.1 ta0 c1206
                          rw [c1186] at p1197
                          rw [c1206] at p1197
                          rw [c1186] at p1198
                          rw [c1206] at p1198
                          obtain ⟨v1208, c1209⟩ : ∃ v, I1192 a0 8 = v := ⟨_, rfl⟩
                          have b1210 := iv15_8 hS1201.1 ta0 c1209
                          rw [c1209] at p1199
                          rw [c1179] at p1199
                          rw [c1203] at p1199
                          rw [c1189] at p1199
                          have hO1211 : FrO 14 a1 T I0 I1192 := hO1183.st g1195 (by decide +kernel)
                          have ov1212 := w1200.over (by rw [c1186]; omega)
                          obtain ⟨v1213, c1214⟩ : ∃ v, I1192 a0 9 = v := ⟨_, rfl⟩
                          have b1215 := iv15_9 hS1201.1 ta0 c1214
                          obtain ⟨v1216, c1217⟩ : ∃ v, I1192 a0 13 = v := ⟨_, rfl⟩
                          obtain ⟨v1218, c1219⟩ : ∃ v, I1192 a0 14 = v := ⟨_, rfl⟩
                          (try rw [c1214] at ov1212)
                          (try rw [c1217] at ov1212)
                          (try rw [c1219] at ov1212)
                          (try rw [c1186] at ov1212)
                          (try rw [c1189] at ov1212)
                          (try rw [c1191] at ov1212)
                          refine tr_iload dX12_readTurner_207 hl422 ?_
                          refine q_iconst dX12_readTurner_209 (by decide) ?_
                          intro v1220 h1221
                          refine tr_iload dX12_readTurner_210 rfl ?_
                          refine q_ishlE dX12_readTurner_212 (by omega) (by omega) ?_
                          intro v1222 h1223
                          refine q_ior dX12_readTurner_213 ?_
                          intro v1224
                          refine tr_istore dX12_readTurner_214 (by decide) (by decide) ?_
                          refine tr_aload_n dX12_readTurner_216 hl415 ?_
                          refine q_bipush dX12_readTurner_217 (by decide +kernel) ?_
                          intro v1225 h1226
                          refine q_callVi hE (M' := mX12_eatsSign) (as := [_]) dX12_readTurner_219 lk12_221 inX12_eatsSign seX12_eatsSign myX12_eatsSign (by decide) ⟨by decide, by decide⟩ rfl (kR15 hS1201.1 ta0) (Nat.le_of_ble_eq_true rfl) rfl rfl (by decide) (by decide) (k_X12_eatsSign hS1201.1 ta0) ?_
                          rintro v1231 cn' K' N' I1227 R1228 L1229 ⟨rfl, rfl, rfl, rfl, g1230, h1232, p1233, p1234, w1235, -⟩
                          have hS1236 := hS1201.tr g1230 (by decide +kernel) (by decide +kernel)
                          have c1237 : I1227 a1 4 = v435 := (g1230.cell ta1 (by decide +kernel)).trans c1202
                          have c1238 : I1227 a0 13 = v1216 := (g1230.cell ta0 (by decide +kernel)).trans c1217
                          have c1239 : I1227 a0 14 = v1218 := (g1230.cell ta0 (by decide +kernel)).trans c1219
                          rw [c1214] at p1233
                          obtain ⟨v1240, c1241⟩ : ∃ v, I1227 a0 8 = v := ⟨_, rfl⟩
                          have b1242 := iv15_8 hS1236.1 ta0 c1241
                          rw [c1241] at p1234
                          rw [c1209] at p1234
                          have hO1243 : FrO 14 a1 T I0 I1227 := hO1211.st g1230 (by decide +kernel)
                          have ov1244 := w1235.over (by rw [c1214]; omega)
                          obtain ⟨v1245, c1246⟩ : ∃ v, I1227 a0 9 = v := ⟨_, rfl⟩
                          have b1247 := iv15_9 hS1236.1 ta0 c1246
                          obtain ⟨v1248, c1249⟩ : ∃ v, I1227 a0 13 = v := ⟨_, rfl⟩
                          obtain ⟨v1250, c1251⟩ : ∃ v, I1227 a0 14 = v := ⟨_, rfl⟩
                          (try rw [c1246] at ov1244)
                          (try rw [c1249] at ov1244)
                          (try rw [c1251] at ov1244)
                          (try rw [c1214] at ov1244)
                          (try rw [c1217] at ov1244)
                          (try rw [c1219] at ov1244)
                          refine tr_istore dX12_readTurner_222 (by decide) (by decide) ?_
                          refine tr_goto 159 dX12_readTurner_224 (by decide) ?_
                          refine tr_iload dX12_readTurner_159 rfl ?_
                          refine q_if_eq 227 dX12_readTurner_161 (by decide) (fun h1252 => ?_) (fun h1252 => ?_)
                          · skip
                            refine tr_aload_n dX12_readTurner_227 hl415 ?_
                            refine q_getI dX12_readTurner_228 fl12_99 (kR15 hS1236.1 ta0) c1246 ?_
                            refine q_iconst dX12_readTurner_231 (by decide) ?_
                            intro v1253 h1254
                            refine q_icmp_ne 236 dX12_readTurner_232 (by decide) (fun h1255 => ?_) (fun h1255 => ?_)
                            · skip
                              exfalso; omega
                            · skip
                              have u1256 : huF gB gQ 901 0 (tkN gB (tkN gB (tkN gB (tkN gB (tkN gB (tkN gB (tkN gB (tkN gB (tkN gB (tkN gB (tkN gB (tkN gB gs)))))))))))) = v1248.toInt := by rw [← g449]; simp only [huF, ↓reduceIte]; repeat' (first | split | omega)
                              have u1256p : huP gB gQ 901 0 (tkN gB (tkN gB (tkN gB (tkN gB (tkN gB (tkN gB (tkN gB (tkN gB (tkN gB (tkN gB (tkN gB (tkN gB gs)))))))))))) = v1250.toInt := by rw [← g450]; simp only [huP, ↓reduceIte]; repeat' (first | split | omega)
                              have eF := hF.eq
                              have eP := hP.eq
                              obtain ⟨v1257, c1258⟩ : ∃ v, I1227 a0 10 = v := ⟨_, rfl⟩
                              have b1259 := iv15_10 hS1236.1 ta0 c1258
                              obtain ⟨v1260, c1261⟩ : ∃ v, I1227 a0 11 = v := ⟨_, rfl⟩
                              obtain ⟨y1262, c1263⟩ : ∃ v, L1229 a0 15 = v := ⟨_, rfl⟩
                              obtain ⟨v1264, c1265⟩ : ∃ v, I1227 a0 12 = v := ⟨_, rfl⟩
                              exact tr_vret hZ dX12_readTurner_235 rfl (by decide) (by decide) (hq _ _ _ ⟨hS1236, (fun b hb => (Option.some.inj (d2.symm.trans hb)) ▸ (((((FrM.ro rw467).st g489 (by decide +kernel)).st g1169 (by decide +kernel)).st g1195 (by decide +kernel)).st g1230 (by decide +kernel))), (fun dr hd => (Option.some.inj (d2.symm.trans hd)) ▸ hO1243), (Or.inr (⟨(by (try rw [w76]); first | done | with_reducible assumption | omega), (by (try rw [w76]); (try rw [c1246]); first | done | with_reducible assumption | omega), (by (try rw [w76]); (try rw [c1249]); first | done | with_reducible assumption | omega), (by (try rw [w76]); (try rw [c1251]); first | done | with_reducible assumption | omega), trivial⟩)), trivial⟩)
                          · skip
                            exfalso; omega
            exact lp468 _ _ v409 v411 I364 L366 ((tkN gB (tkN gB (tkN gB (tkN gB (tkN gB (tkN gB (tkN gB (tkN gB (tkN gB (tkN gB (tkN gB (tkN gB gs))))))))))))) (901) (0) v392 v45 v394 v397 v400 y402 v404 v406 hl0 hl1 hl3 rfl rfl rfl rfl rfl rfl hS372 hL390 hM391 hO374 c393 c373 c395 c398 c401 c403 c405 c407 (by first | rfl | (congr 1; omega) | (congr 2 <;> omega)) (by first | rfl | (congr 1; omega) | (congr 2 <;> omega)) (by first | rfl | (congr 1; omega) | (congr 2 <;> omega)) (by first | rfl | (congr 1; omega) | (congr 2 <;> omega)) (by omega) (by omega) (by omega) (by omega) (by omega) (by omega) (by omega) (by omega) (by omega) (by omega) (by omega) (by assumption) (by assumption) (by assumption) ((((((RoF.rf (ex := rdm) (T := T)).tr (RoF.st g95 (by decide +kernel))).tr (RoF.st g164 (by decide +kernel))).tr (RoF.st g233 (by decide +kernel))).tr (RoF.st g302 (by decide +kernel))).tr (RoF.st g367 (by decide +kernel))) (Nat.lt_succ_self _)
          · skip
            obtain ⟨v1266, c1267⟩ : ∃ v, I364 a0 9 = v := ⟨_, rfl⟩
            have b1268 := iv15_9 hS372.1 ta0 c1267
            rw [c1267] at p387
            obtain ⟨v1269, c1270⟩ : ∃ v, I364 a0 13 = v := ⟨_, rfl⟩
            rw [c1270] at p388
            obtain ⟨v1271, c1272⟩ : ∃ v, I364 a0 14 = v := ⟨_, rfl⟩
            rw [c1272] at p389
            replace hF := hF.pos (by omega)
            replace hP := hP.pos (by omega)
            refine q_iconst dX12_readTurner_153 (by decide) ?_
            intro v1273 h1274
            refine tr_istore dX12_readTurner_154 (by decide) (by decide) ?_
            refine q_iconst dX12_readTurner_156 (by decide) ?_
            intro v1275 h1276
            refine tr_istore dX12_readTurner_157 (by decide) (by decide) ?_
            refine tr_iload dX12_readTurner_159 rfl ?_
            refine q_if_eq 227 dX12_readTurner_161 (by decide) (fun h1277 => ?_) (fun h1277 => ?_)
            · skip
              exfalso; omega
            · skip
              refine tr_aload_n dX12_readTurner_164 hl0 ?_
              refine q_getI dX12_readTurner_165 fl12_99 (kR15 hS372.1 ta0) c1267 ?_
              refine q_iconst dX12_readTurner_168 (by decide) ?_
              intro v1278 h1279
              refine q_icmp_eq 227 dX12_readTurner_169 (by decide) (fun h1280 => ?_) (fun h1280 => ?_)
              · skip
                refine tr_aload_n dX12_readTurner_227 hl0 ?_
                refine q_getI dX12_readTurner_228 fl12_99 (kR15 hS372.1 ta0) c1267 ?_
                refine q_iconst dX12_readTurner_231 (by decide) ?_
                intro v1281 h1282
                refine q_icmp_ne 236 dX12_readTurner_232 (by decide) (fun h1283 => ?_) (fun h1283 => ?_)
                · skip
                  exfalso; omega
                · skip
                  have eF := hF.eq
                  have eP := hP.eq
                  obtain ⟨v1284, c1285⟩ : ∃ v, I364 a0 10 = v := ⟨_, rfl⟩
                  have b1286 := iv15_10 hS372.1 ta0 c1285
                  obtain ⟨v1287, c1288⟩ : ∃ v, I364 a0 11 = v := ⟨_, rfl⟩
                  obtain ⟨y1289, c1290⟩ : ∃ v, L366 a0 15 = v := ⟨_, rfl⟩
                  obtain ⟨v1291, c1292⟩ : ∃ v, I364 a0 12 = v := ⟨_, rfl⟩
                  obtain ⟨v1293, c1294⟩ : ∃ v, I364 a0 8 = v := ⟨_, rfl⟩
                  have b1295 := iv15_8 hS372.1 ta0 c1294
                  exact tr_vret hZ dX12_readTurner_235 rfl (by decide) (by decide) (hq _ _ _ ⟨hS372, (fun b hb => (Option.some.inj (d2.symm.trans hb)) ▸ ((((((FrM.rf (R := R0) (b := a1) (T := T)).st g95 (by decide +kernel)).st g164 (by decide +kernel)).st g233 (by decide +kernel)).st g302 (by decide +kernel)).st g367 (by decide +kernel))), (fun dr hd => (Option.some.inj (d2.symm.trans hd)) ▸ hO374), (Or.inr (⟨(by (try rw [w76]); first | done | with_reducible assumption | omega), (by (try rw [w76]); (try rw [c1267]); first | done | with_reducible assumption | omega), (by (try rw [w76]); (try rw [c1270]); first | done | with_reducible assumption | omega), (by (try rw [w76]); (try rw [c1272]); first | done | with_reducible assumption | omega), trivial⟩)), trivial⟩)
              · skip
                exfalso; omega
        · skip
          obtain ⟨v1296, c1297⟩ : ∃ v, I299 a0 9 = v := ⟨_, rfl⟩
          have b1298 := iv15_9 hS307.1 ta0 c1297
          rw [c1297] at p327
          obtain ⟨v1299, c1300⟩ : ∃ v, I299 a0 13 = v := ⟨_, rfl⟩
          rw [c1300] at p328
          obtain ⟨v1301, c1302⟩ : ∃ v, I299 a0 14 = v := ⟨_, rfl⟩
          rw [c1302] at p329
          replace hF := hF.pos (by omega)
          replace hP := hP.pos (by omega)
          refine tr_istore dX12_readTurner_145 (by decide) (by decide) ?_
          refine tr_aload_n dX12_readTurner_147 hl0 ?_
          refine tr_ldcS dX12_readTurner_148 ld12_253 ?_
          refine q_callVv hE (M' := mX12_needs) (as := [_]) dX12_readTurner_150 lk12_157 inX12_needs seX12_needs myX12_needs (by decide) ⟨by decide, by decide⟩ rfl (kR15 hS307.1 ta0) (Nat.le_of_ble_eq_true rfl) rfl rfl (by decide) (by decide) (k_X12_needs hS307.1 ta0 (by decide)) ?_
          rintro cn' K' N' I1303 R1304 L1305 ⟨rfl, rfl, rfl, rfl, g1306, w1308, -⟩
          have hS1309 := hS307.tr g1306 (by decide +kernel) (by decide +kernel)
          have c1310 : I1303 a1 4 = v45 := (g1306.cell ta1 (by decide +kernel)).trans c308
          have hO1311 : FrO 14 a1 T I0 I1303 := hO309.st g1306 (by decide +kernel)
          have ov1312 := w1308.over (by rw [c1297]; omega)
          obtain ⟨v1313, c1314⟩ : ∃ v, I1303 a0 9 = v := ⟨_, rfl⟩
          have b1315 := iv15_9 hS1309.1 ta0 c1314
          obtain ⟨v1316, c1317⟩ : ∃ v, I1303 a0 13 = v := ⟨_, rfl⟩
          obtain ⟨v1318, c1319⟩ : ∃ v, I1303 a0 14 = v := ⟨_, rfl⟩
          (try rw [c1314] at ov1312)
          (try rw [c1317] at ov1312)
          (try rw [c1319] at ov1312)
          (try rw [c1297] at ov1312)
          (try rw [c1300] at ov1312)
          (try rw [c1302] at ov1312)
          refine q_iconst dX12_readTurner_153 (by decide) ?_
          intro v1320 h1321
          refine tr_istore dX12_readTurner_154 (by decide) (by decide) ?_
          refine q_iconst dX12_readTurner_156 (by decide) ?_
          intro v1322 h1323
          refine tr_istore dX12_readTurner_157 (by decide) (by decide) ?_
          refine tr_iload dX12_readTurner_159 rfl ?_
          refine q_if_eq 227 dX12_readTurner_161 (by decide) (fun h1324 => ?_) (fun h1324 => ?_)
          · skip
            exfalso; omega
          · skip
            refine tr_aload_n dX12_readTurner_164 hl0 ?_
            refine q_getI dX12_readTurner_165 fl12_99 (kR15 hS1309.1 ta0) c1314 ?_
            refine q_iconst dX12_readTurner_168 (by decide) ?_
            intro v1325 h1326
            refine q_icmp_eq 227 dX12_readTurner_169 (by decide) (fun h1327 => ?_) (fun h1327 => ?_)
            · skip
              refine tr_aload_n dX12_readTurner_227 hl0 ?_
              refine q_getI dX12_readTurner_228 fl12_99 (kR15 hS1309.1 ta0) c1314 ?_
              refine q_iconst dX12_readTurner_231 (by decide) ?_
              intro v1328 h1329
              refine q_icmp_ne 236 dX12_readTurner_232 (by decide) (fun h1330 => ?_) (fun h1330 => ?_)
              · skip
                exfalso; omega
              · skip
                have eF := hF.eq
                have eP := hP.eq
                obtain ⟨v1331, c1332⟩ : ∃ v, I1303 a0 10 = v := ⟨_, rfl⟩
                have b1333 := iv15_10 hS1309.1 ta0 c1332
                obtain ⟨v1334, c1335⟩ : ∃ v, I1303 a0 11 = v := ⟨_, rfl⟩
                obtain ⟨y1336, c1337⟩ : ∃ v, L1305 a0 15 = v := ⟨_, rfl⟩
                obtain ⟨v1338, c1339⟩ : ∃ v, I1303 a0 12 = v := ⟨_, rfl⟩
                obtain ⟨v1340, c1341⟩ : ∃ v, I1303 a0 8 = v := ⟨_, rfl⟩
                have b1342 := iv15_8 hS1309.1 ta0 c1341
                exact tr_vret hZ dX12_readTurner_235 rfl (by decide) (by decide) (hq _ _ _ ⟨hS1309, (fun b hb => (Option.some.inj (d2.symm.trans hb)) ▸ ((((((FrM.rf (R := R0) (b := a1) (T := T)).st g95 (by decide +kernel)).st g164 (by decide +kernel)).st g233 (by decide +kernel)).st g302 (by decide +kernel)).st g1306 (by decide +kernel))), (fun dr hd => (Option.some.inj (d2.symm.trans hd)) ▸ hO1311), (Or.inr (⟨(by (try rw [w76]); first | done | with_reducible assumption | omega), (by (try rw [w76]); (try rw [c1314]); first | done | with_reducible assumption | omega), (by (try rw [w76]); (try rw [c1317]); first | done | with_reducible assumption | omega), (by (try rw [w76]); (try rw [c1319]); first | done | with_reducible assumption | omega), trivial⟩)), trivial⟩)
            · skip
              exfalso; omega
        · skip
          obtain ⟨v1343, c1344⟩ : ∃ v, I299 a0 9 = v := ⟨_, rfl⟩
          have b1345 := iv15_9 hS307.1 ta0 c1344
          rw [c1344] at p334
          obtain ⟨v1346, c1347⟩ : ∃ v, I299 a0 13 = v := ⟨_, rfl⟩
          rw [c1347] at p335
          obtain ⟨v1348, c1349⟩ : ∃ v, I299 a0 14 = v := ⟨_, rfl⟩
          rw [c1349] at p336
          replace hF := hF.neg (by omega)
          replace hP := hP.neg (by omega)
          replace hF := hF.pos (by omega)
          replace hP := hP.pos (by omega)
          refine tr_istore dX12_readTurner_145 (by decide) (by decide) ?_
          refine tr_aload_n dX12_readTurner_147 hl0 ?_
          refine tr_ldcS dX12_readTurner_148 ld12_253 ?_
          refine q_callVv hE (M' := mX12_needs) (as := [_]) dX12_readTurner_150 lk12_157 inX12_needs seX12_needs myX12_needs (by decide) ⟨by decide, by decide⟩ rfl (kR15 hS307.1 ta0) (Nat.le_of_ble_eq_true rfl) rfl rfl (by decide) (by decide) (k_X12_needs hS307.1 ta0 (by decide)) ?_
          rintro cn' K' N' I1350 R1351 L1352 ⟨rfl, rfl, rfl, rfl, g1353, w1355, -⟩
          have hS1356 := hS307.tr g1353 (by decide +kernel) (by decide +kernel)
          have c1357 : I1350 a1 4 = v45 := (g1353.cell ta1 (by decide +kernel)).trans c308
          have hO1358 : FrO 14 a1 T I0 I1350 := hO309.st g1353 (by decide +kernel)
          have ov1359 := w1355.over (by rw [c1344]; omega)
          obtain ⟨v1360, c1361⟩ : ∃ v, I1350 a0 9 = v := ⟨_, rfl⟩
          have b1362 := iv15_9 hS1356.1 ta0 c1361
          obtain ⟨v1363, c1364⟩ : ∃ v, I1350 a0 13 = v := ⟨_, rfl⟩
          obtain ⟨v1365, c1366⟩ : ∃ v, I1350 a0 14 = v := ⟨_, rfl⟩
          (try rw [c1361] at ov1359)
          (try rw [c1364] at ov1359)
          (try rw [c1366] at ov1359)
          (try rw [c1344] at ov1359)
          (try rw [c1347] at ov1359)
          (try rw [c1349] at ov1359)
          refine q_iconst dX12_readTurner_153 (by decide) ?_
          intro v1367 h1368
          refine tr_istore dX12_readTurner_154 (by decide) (by decide) ?_
          refine q_iconst dX12_readTurner_156 (by decide) ?_
          intro v1369 h1370
          refine tr_istore dX12_readTurner_157 (by decide) (by decide) ?_
          refine tr_iload dX12_readTurner_159 rfl ?_
          refine q_if_eq 227 dX12_readTurner_161 (by decide) (fun h1371 => ?_) (fun h1371 => ?_)
          · skip
            exfalso; omega
          · skip
            refine tr_aload_n dX12_readTurner_164 hl0 ?_
            refine q_getI dX12_readTurner_165 fl12_99 (kR15 hS1356.1 ta0) c1361 ?_
            refine q_iconst dX12_readTurner_168 (by decide) ?_
            intro v1372 h1373
            refine q_icmp_eq 227 dX12_readTurner_169 (by decide) (fun h1374 => ?_) (fun h1374 => ?_)
            · skip
              refine tr_aload_n dX12_readTurner_227 hl0 ?_
              refine q_getI dX12_readTurner_228 fl12_99 (kR15 hS1356.1 ta0) c1361 ?_
              refine q_iconst dX12_readTurner_231 (by decide) ?_
              intro v1375 h1376
              refine q_icmp_ne 236 dX12_readTurner_232 (by decide) (fun h1377 => ?_) (fun h1377 => ?_)
              · skip
                exfalso; omega
              · skip
                have eF := hF.eq
                have eP := hP.eq
                obtain ⟨v1378, c1379⟩ : ∃ v, I1350 a0 10 = v := ⟨_, rfl⟩
                have b1380 := iv15_10 hS1356.1 ta0 c1379
                obtain ⟨v1381, c1382⟩ : ∃ v, I1350 a0 11 = v := ⟨_, rfl⟩
                obtain ⟨y1383, c1384⟩ : ∃ v, L1352 a0 15 = v := ⟨_, rfl⟩
                obtain ⟨v1385, c1386⟩ : ∃ v, I1350 a0 12 = v := ⟨_, rfl⟩
                obtain ⟨v1387, c1388⟩ : ∃ v, I1350 a0 8 = v := ⟨_, rfl⟩
                have b1389 := iv15_8 hS1356.1 ta0 c1388
                exact tr_vret hZ dX12_readTurner_235 rfl (by decide) (by decide) (hq _ _ _ ⟨hS1356, (fun b hb => (Option.some.inj (d2.symm.trans hb)) ▸ ((((((FrM.rf (R := R0) (b := a1) (T := T)).st g95 (by decide +kernel)).st g164 (by decide +kernel)).st g233 (by decide +kernel)).st g302 (by decide +kernel)).st g1353 (by decide +kernel))), (fun dr hd => (Option.some.inj (d2.symm.trans hd)) ▸ hO1358), (Or.inr (⟨(by (try rw [w76]); first | done | with_reducible assumption | omega), (by (try rw [w76]); (try rw [c1361]); first | done | with_reducible assumption | omega), (by (try rw [w76]); (try rw [c1364]); first | done | with_reducible assumption | omega), (by (try rw [w76]); (try rw [c1366]); first | done | with_reducible assumption | omega), trivial⟩)), trivial⟩)
            · skip
              exfalso; omega
        · skip
          obtain ⟨v1390, c1391⟩ : ∃ v, I299 a0 9 = v := ⟨_, rfl⟩
          have b1392 := iv15_9 hS307.1 ta0 c1391
          rw [c1391] at p342
          obtain ⟨v1393, c1394⟩ : ∃ v, I299 a0 13 = v := ⟨_, rfl⟩
          rw [c1394] at p343
          obtain ⟨v1395, c1396⟩ : ∃ v, I299 a0 14 = v := ⟨_, rfl⟩
          rw [c1396] at p344
          replace hF := hF.neg (by omega)
          replace hP := hP.neg (by omega)
          replace hF := hF.neg (by omega)
          replace hP := hP.neg (by omega)
          replace hF := hF.pos (by omega)
          replace hP := hP.pos (by omega)
          refine tr_istore dX12_readTurner_145 (by decide) (by decide) ?_
          refine tr_aload_n dX12_readTurner_147 hl0 ?_
          refine tr_ldcS dX12_readTurner_148 ld12_253 ?_
          refine q_callVv hE (M' := mX12_needs) (as := [_]) dX12_readTurner_150 lk12_157 inX12_needs seX12_needs myX12_needs (by decide) ⟨by decide, by decide⟩ rfl (kR15 hS307.1 ta0) (Nat.le_of_ble_eq_true rfl) rfl rfl (by decide) (by decide) (k_X12_needs hS307.1 ta0 (by decide)) ?_
          rintro cn' K' N' I1397 R1398 L1399 ⟨rfl, rfl, rfl, rfl, g1400, w1402, -⟩
          have hS1403 := hS307.tr g1400 (by decide +kernel) (by decide +kernel)
          have c1404 : I1397 a1 4 = v45 := (g1400.cell ta1 (by decide +kernel)).trans c308
          have hO1405 : FrO 14 a1 T I0 I1397 := hO309.st g1400 (by decide +kernel)
          have ov1406 := w1402.over (by rw [c1391]; omega)
          obtain ⟨v1407, c1408⟩ : ∃ v, I1397 a0 9 = v := ⟨_, rfl⟩
          have b1409 := iv15_9 hS1403.1 ta0 c1408
          obtain ⟨v1410, c1411⟩ : ∃ v, I1397 a0 13 = v := ⟨_, rfl⟩
          obtain ⟨v1412, c1413⟩ : ∃ v, I1397 a0 14 = v := ⟨_, rfl⟩
          (try rw [c1408] at ov1406)
          (try rw [c1411] at ov1406)
          (try rw [c1413] at ov1406)
          (try rw [c1391] at ov1406)
          (try rw [c1394] at ov1406)
          (try rw [c1396] at ov1406)
          refine q_iconst dX12_readTurner_153 (by decide) ?_
          intro v1414 h1415
          refine tr_istore dX12_readTurner_154 (by decide) (by decide) ?_
          refine q_iconst dX12_readTurner_156 (by decide) ?_
          intro v1416 h1417
          refine tr_istore dX12_readTurner_157 (by decide) (by decide) ?_
          refine tr_iload dX12_readTurner_159 rfl ?_
          refine q_if_eq 227 dX12_readTurner_161 (by decide) (fun h1418 => ?_) (fun h1418 => ?_)
          · skip
            exfalso; omega
          · skip
            refine tr_aload_n dX12_readTurner_164 hl0 ?_
            refine q_getI dX12_readTurner_165 fl12_99 (kR15 hS1403.1 ta0) c1408 ?_
            refine q_iconst dX12_readTurner_168 (by decide) ?_
            intro v1419 h1420
            refine q_icmp_eq 227 dX12_readTurner_169 (by decide) (fun h1421 => ?_) (fun h1421 => ?_)
            · skip
              refine tr_aload_n dX12_readTurner_227 hl0 ?_
              refine q_getI dX12_readTurner_228 fl12_99 (kR15 hS1403.1 ta0) c1408 ?_
              refine q_iconst dX12_readTurner_231 (by decide) ?_
              intro v1422 h1423
              refine q_icmp_ne 236 dX12_readTurner_232 (by decide) (fun h1424 => ?_) (fun h1424 => ?_)
              · skip
                exfalso; omega
              · skip
                have eF := hF.eq
                have eP := hP.eq
                obtain ⟨v1425, c1426⟩ : ∃ v, I1397 a0 10 = v := ⟨_, rfl⟩
                have b1427 := iv15_10 hS1403.1 ta0 c1426
                obtain ⟨v1428, c1429⟩ : ∃ v, I1397 a0 11 = v := ⟨_, rfl⟩
                obtain ⟨y1430, c1431⟩ : ∃ v, L1399 a0 15 = v := ⟨_, rfl⟩
                obtain ⟨v1432, c1433⟩ : ∃ v, I1397 a0 12 = v := ⟨_, rfl⟩
                obtain ⟨v1434, c1435⟩ : ∃ v, I1397 a0 8 = v := ⟨_, rfl⟩
                have b1436 := iv15_8 hS1403.1 ta0 c1435
                exact tr_vret hZ dX12_readTurner_235 rfl (by decide) (by decide) (hq _ _ _ ⟨hS1403, (fun b hb => (Option.some.inj (d2.symm.trans hb)) ▸ ((((((FrM.rf (R := R0) (b := a1) (T := T)).st g95 (by decide +kernel)).st g164 (by decide +kernel)).st g233 (by decide +kernel)).st g302 (by decide +kernel)).st g1400 (by decide +kernel))), (fun dr hd => (Option.some.inj (d2.symm.trans hd)) ▸ hO1405), (Or.inr (⟨(by (try rw [w76]); first | done | with_reducible assumption | omega), (by (try rw [w76]); (try rw [c1408]); first | done | with_reducible assumption | omega), (by (try rw [w76]); (try rw [c1411]); first | done | with_reducible assumption | omega), (by (try rw [w76]); (try rw [c1413]); first | done | with_reducible assumption | omega), trivial⟩)), trivial⟩)
            · skip
              exfalso; omega
      · skip
        obtain ⟨v1437, c1438⟩ : ∃ v, I230 a0 9 = v := ⟨_, rfl⟩
        have b1439 := iv15_9 hS238.1 ta0 c1438
        rw [c1438] at p258
        obtain ⟨v1440, c1441⟩ : ∃ v, I230 a0 13 = v := ⟨_, rfl⟩
        rw [c1441] at p259
        obtain ⟨v1442, c1443⟩ : ∃ v, I230 a0 14 = v := ⟨_, rfl⟩
        rw [c1443] at p260
        replace hF := hF.pos (by omega)
        replace hP := hP.pos (by omega)
        refine tr_istore dX12_readTurner_133 (by decide) (by decide) ?_
        refine tr_aload_n dX12_readTurner_135 hl0 ?_
        refine tr_ldcwS dX12_readTurner_136 ld12_327 ?_
        refine q_iconst dX12_readTurner_139 (by decide) ?_
        intro v1444 h1445
        refine q_bipush dX12_readTurner_140 (by decide +kernel) ?_
        intro v1446 h1447
        refine q_callVi hE (M' := mX12_readPart) (as := [_, _, _]) dX12_readTurner_142 lk12_249 inX12_readPart seX12_readPart myX12_readPart (by decide) ⟨by decide, by decide⟩ rfl (kR15 hS238.1 ta0) (Nat.le_of_ble_eq_true rfl) rfl rfl (by decide) (by decide) (k_X12_readPart hS238.1 ta0 (by decide)) ?_
        rintro v1452 cn' K' N' I1448 R1449 L1450 ⟨rfl, rfl, rfl, rfl, g1451, p1453, w1454, -⟩
        have hS1455 := hS238.tr g1451 (by decide +kernel) (by decide +kernel)
        have c1456 : I1448 a1 4 = v45 := (g1451.cell ta1 (by decide +kernel)).trans c239
        have b1457 : 1 ≤ v1452.toInt ∧ v1452.toInt ≤ 20 := by omega
        clear p1453
        have hO1458 : FrO 14 a1 T I0 I1448 := hO240.st g1451 (by decide +kernel)
        have ov1459 := w1454.over (by rw [c1438]; omega)
        obtain ⟨v1460, c1461⟩ : ∃ v, I1448 a0 9 = v := ⟨_, rfl⟩
        have b1462 := iv15_9 hS1455.1 ta0 c1461
        obtain ⟨v1463, c1464⟩ : ∃ v, I1448 a0 13 = v := ⟨_, rfl⟩
        obtain ⟨v1465, c1466⟩ : ∃ v, I1448 a0 14 = v := ⟨_, rfl⟩
        (try rw [c1461] at ov1459)
        (try rw [c1464] at ov1459)
        (try rw [c1466] at ov1459)
        (try rw [c1438] at ov1459)
        (try rw [c1441] at ov1459)
        (try rw [c1443] at ov1459)
        refine tr_istore dX12_readTurner_145 (by decide) (by decide) ?_
        refine tr_aload_n dX12_readTurner_147 hl0 ?_
        refine tr_ldcS dX12_readTurner_148 ld12_253 ?_
        refine q_callVv hE (M' := mX12_needs) (as := [_]) dX12_readTurner_150 lk12_157 inX12_needs seX12_needs myX12_needs (by decide) ⟨by decide, by decide⟩ rfl (kR15 hS1455.1 ta0) (Nat.le_of_ble_eq_true rfl) rfl rfl (by decide) (by decide) (k_X12_needs hS1455.1 ta0 (by decide)) ?_
        rintro cn' K' N' I1467 R1468 L1469 ⟨rfl, rfl, rfl, rfl, g1470, w1472, -⟩
        have hS1473 := hS1455.tr g1470 (by decide +kernel) (by decide +kernel)
        have c1474 : I1467 a1 4 = v45 := (g1470.cell ta1 (by decide +kernel)).trans c1456
        have hO1475 : FrO 14 a1 T I0 I1467 := hO1458.st g1470 (by decide +kernel)
        have ov1476 := w1472.over (by rw [c1461]; omega)
        obtain ⟨v1477, c1478⟩ : ∃ v, I1467 a0 9 = v := ⟨_, rfl⟩
        have b1479 := iv15_9 hS1473.1 ta0 c1478
        obtain ⟨v1480, c1481⟩ : ∃ v, I1467 a0 13 = v := ⟨_, rfl⟩
        obtain ⟨v1482, c1483⟩ : ∃ v, I1467 a0 14 = v := ⟨_, rfl⟩
        (try rw [c1478] at ov1476)
        (try rw [c1481] at ov1476)
        (try rw [c1483] at ov1476)
        (try rw [c1461] at ov1476)
        (try rw [c1464] at ov1476)
        (try rw [c1466] at ov1476)
        refine q_iconst dX12_readTurner_153 (by decide) ?_
        intro v1484 h1485
        refine tr_istore dX12_readTurner_154 (by decide) (by decide) ?_
        refine q_iconst dX12_readTurner_156 (by decide) ?_
        intro v1486 h1487
        refine tr_istore dX12_readTurner_157 (by decide) (by decide) ?_
        refine tr_iload dX12_readTurner_159 rfl ?_
        refine q_if_eq 227 dX12_readTurner_161 (by decide) (fun h1488 => ?_) (fun h1488 => ?_)
        · skip
          exfalso; omega
        · skip
          refine tr_aload_n dX12_readTurner_164 hl0 ?_
          refine q_getI dX12_readTurner_165 fl12_99 (kR15 hS1473.1 ta0) c1478 ?_
          refine q_iconst dX12_readTurner_168 (by decide) ?_
          intro v1489 h1490
          refine q_icmp_eq 227 dX12_readTurner_169 (by decide) (fun h1491 => ?_) (fun h1491 => ?_)
          · skip
            refine tr_aload_n dX12_readTurner_227 hl0 ?_
            refine q_getI dX12_readTurner_228 fl12_99 (kR15 hS1473.1 ta0) c1478 ?_
            refine q_iconst dX12_readTurner_231 (by decide) ?_
            intro v1492 h1493
            refine q_icmp_ne 236 dX12_readTurner_232 (by decide) (fun h1494 => ?_) (fun h1494 => ?_)
            · skip
              exfalso; omega
            · skip
              have eF := hF.eq
              have eP := hP.eq
              obtain ⟨v1495, c1496⟩ : ∃ v, I1467 a0 10 = v := ⟨_, rfl⟩
              have b1497 := iv15_10 hS1473.1 ta0 c1496
              obtain ⟨v1498, c1499⟩ : ∃ v, I1467 a0 11 = v := ⟨_, rfl⟩
              obtain ⟨y1500, c1501⟩ : ∃ v, L1469 a0 15 = v := ⟨_, rfl⟩
              obtain ⟨v1502, c1503⟩ : ∃ v, I1467 a0 12 = v := ⟨_, rfl⟩
              obtain ⟨v1504, c1505⟩ : ∃ v, I1467 a0 8 = v := ⟨_, rfl⟩
              have b1506 := iv15_8 hS1473.1 ta0 c1505
              exact tr_vret hZ dX12_readTurner_235 rfl (by decide) (by decide) (hq _ _ _ ⟨hS1473, (fun b hb => (Option.some.inj (d2.symm.trans hb)) ▸ ((((((FrM.rf (R := R0) (b := a1) (T := T)).st g95 (by decide +kernel)).st g164 (by decide +kernel)).st g233 (by decide +kernel)).st g1451 (by decide +kernel)).st g1470 (by decide +kernel))), (fun dr hd => (Option.some.inj (d2.symm.trans hd)) ▸ hO1475), (Or.inr (⟨(by (try rw [w76]); first | done | with_reducible assumption | omega), (by (try rw [w76]); (try rw [c1478]); first | done | with_reducible assumption | omega), (by (try rw [w76]); (try rw [c1481]); first | done | with_reducible assumption | omega), (by (try rw [w76]); (try rw [c1483]); first | done | with_reducible assumption | omega), trivial⟩)), trivial⟩)
          · skip
            exfalso; omega
      · skip
        obtain ⟨v1507, c1508⟩ : ∃ v, I230 a0 9 = v := ⟨_, rfl⟩
        have b1509 := iv15_9 hS238.1 ta0 c1508
        rw [c1508] at p265
        obtain ⟨v1510, c1511⟩ : ∃ v, I230 a0 13 = v := ⟨_, rfl⟩
        rw [c1511] at p266
        obtain ⟨v1512, c1513⟩ : ∃ v, I230 a0 14 = v := ⟨_, rfl⟩
        rw [c1513] at p267
        replace hF := hF.neg (by omega)
        replace hP := hP.neg (by omega)
        replace hF := hF.pos (by omega)
        replace hP := hP.pos (by omega)
        refine tr_istore dX12_readTurner_133 (by decide) (by decide) ?_
        refine tr_aload_n dX12_readTurner_135 hl0 ?_
        refine tr_ldcwS dX12_readTurner_136 ld12_327 ?_
        refine q_iconst dX12_readTurner_139 (by decide) ?_
        intro v1514 h1515
        refine q_bipush dX12_readTurner_140 (by decide +kernel) ?_
        intro v1516 h1517
        refine q_callVi hE (M' := mX12_readPart) (as := [_, _, _]) dX12_readTurner_142 lk12_249 inX12_readPart seX12_readPart myX12_readPart (by decide) ⟨by decide, by decide⟩ rfl (kR15 hS238.1 ta0) (Nat.le_of_ble_eq_true rfl) rfl rfl (by decide) (by decide) (k_X12_readPart hS238.1 ta0 (by decide)) ?_
        rintro v1522 cn' K' N' I1518 R1519 L1520 ⟨rfl, rfl, rfl, rfl, g1521, p1523, w1524, -⟩
        have hS1525 := hS238.tr g1521 (by decide +kernel) (by decide +kernel)
        have c1526 : I1518 a1 4 = v45 := (g1521.cell ta1 (by decide +kernel)).trans c239
        have b1527 : 1 ≤ v1522.toInt ∧ v1522.toInt ≤ 20 := by omega
        clear p1523
        have hO1528 : FrO 14 a1 T I0 I1518 := hO240.st g1521 (by decide +kernel)
        have ov1529 := w1524.over (by rw [c1508]; omega)
        obtain ⟨v1530, c1531⟩ : ∃ v, I1518 a0 9 = v := ⟨_, rfl⟩
        have b1532 := iv15_9 hS1525.1 ta0 c1531
        obtain ⟨v1533, c1534⟩ : ∃ v, I1518 a0 13 = v := ⟨_, rfl⟩
        obtain ⟨v1535, c1536⟩ : ∃ v, I1518 a0 14 = v := ⟨_, rfl⟩
        (try rw [c1531] at ov1529)
        (try rw [c1534] at ov1529)
        (try rw [c1536] at ov1529)
        (try rw [c1508] at ov1529)
        (try rw [c1511] at ov1529)
        (try rw [c1513] at ov1529)
        refine tr_istore dX12_readTurner_145 (by decide) (by decide) ?_
        refine tr_aload_n dX12_readTurner_147 hl0 ?_
        refine tr_ldcS dX12_readTurner_148 ld12_253 ?_
        refine q_callVv hE (M' := mX12_needs) (as := [_]) dX12_readTurner_150 lk12_157 inX12_needs seX12_needs myX12_needs (by decide) ⟨by decide, by decide⟩ rfl (kR15 hS1525.1 ta0) (Nat.le_of_ble_eq_true rfl) rfl rfl (by decide) (by decide) (k_X12_needs hS1525.1 ta0 (by decide)) ?_
        rintro cn' K' N' I1537 R1538 L1539 ⟨rfl, rfl, rfl, rfl, g1540, w1542, -⟩
        have hS1543 := hS1525.tr g1540 (by decide +kernel) (by decide +kernel)
        have c1544 : I1537 a1 4 = v45 := (g1540.cell ta1 (by decide +kernel)).trans c1526
        have hO1545 : FrO 14 a1 T I0 I1537 := hO1528.st g1540 (by decide +kernel)
        have ov1546 := w1542.over (by rw [c1531]; omega)
        obtain ⟨v1547, c1548⟩ : ∃ v, I1537 a0 9 = v := ⟨_, rfl⟩
        have b1549 := iv15_9 hS1543.1 ta0 c1548
        obtain ⟨v1550, c1551⟩ : ∃ v, I1537 a0 13 = v := ⟨_, rfl⟩
        obtain ⟨v1552, c1553⟩ : ∃ v, I1537 a0 14 = v := ⟨_, rfl⟩
        (try rw [c1548] at ov1546)
        (try rw [c1551] at ov1546)
        (try rw [c1553] at ov1546)
        (try rw [c1531] at ov1546)
        (try rw [c1534] at ov1546)
        (try rw [c1536] at ov1546)
        refine q_iconst dX12_readTurner_153 (by decide) ?_
        intro v1554 h1555
        refine tr_istore dX12_readTurner_154 (by decide) (by decide) ?_
        refine q_iconst dX12_readTurner_156 (by decide) ?_
        intro v1556 h1557
        refine tr_istore dX12_readTurner_157 (by decide) (by decide) ?_
        refine tr_iload dX12_readTurner_159 rfl ?_
        refine q_if_eq 227 dX12_readTurner_161 (by decide) (fun h1558 => ?_) (fun h1558 => ?_)
        · skip
          exfalso; omega
        · skip
          refine tr_aload_n dX12_readTurner_164 hl0 ?_
          refine q_getI dX12_readTurner_165 fl12_99 (kR15 hS1543.1 ta0) c1548 ?_
          refine q_iconst dX12_readTurner_168 (by decide) ?_
          intro v1559 h1560
          refine q_icmp_eq 227 dX12_readTurner_169 (by decide) (fun h1561 => ?_) (fun h1561 => ?_)
          · skip
            refine tr_aload_n dX12_readTurner_227 hl0 ?_
            refine q_getI dX12_readTurner_228 fl12_99 (kR15 hS1543.1 ta0) c1548 ?_
            refine q_iconst dX12_readTurner_231 (by decide) ?_
            intro v1562 h1563
            refine q_icmp_ne 236 dX12_readTurner_232 (by decide) (fun h1564 => ?_) (fun h1564 => ?_)
            · skip
              exfalso; omega
            · skip
              have eF := hF.eq
              have eP := hP.eq
              obtain ⟨v1565, c1566⟩ : ∃ v, I1537 a0 10 = v := ⟨_, rfl⟩
              have b1567 := iv15_10 hS1543.1 ta0 c1566
              obtain ⟨v1568, c1569⟩ : ∃ v, I1537 a0 11 = v := ⟨_, rfl⟩
              obtain ⟨y1570, c1571⟩ : ∃ v, L1539 a0 15 = v := ⟨_, rfl⟩
              obtain ⟨v1572, c1573⟩ : ∃ v, I1537 a0 12 = v := ⟨_, rfl⟩
              obtain ⟨v1574, c1575⟩ : ∃ v, I1537 a0 8 = v := ⟨_, rfl⟩
              have b1576 := iv15_8 hS1543.1 ta0 c1575
              exact tr_vret hZ dX12_readTurner_235 rfl (by decide) (by decide) (hq _ _ _ ⟨hS1543, (fun b hb => (Option.some.inj (d2.symm.trans hb)) ▸ ((((((FrM.rf (R := R0) (b := a1) (T := T)).st g95 (by decide +kernel)).st g164 (by decide +kernel)).st g233 (by decide +kernel)).st g1521 (by decide +kernel)).st g1540 (by decide +kernel))), (fun dr hd => (Option.some.inj (d2.symm.trans hd)) ▸ hO1545), (Or.inr (⟨(by (try rw [w76]); first | done | with_reducible assumption | omega), (by (try rw [w76]); (try rw [c1548]); first | done | with_reducible assumption | omega), (by (try rw [w76]); (try rw [c1551]); first | done | with_reducible assumption | omega), (by (try rw [w76]); (try rw [c1553]); first | done | with_reducible assumption | omega), trivial⟩)), trivial⟩)
          · skip
            exfalso; omega
      · skip
        obtain ⟨v1577, c1578⟩ : ∃ v, I230 a0 9 = v := ⟨_, rfl⟩
        have b1579 := iv15_9 hS238.1 ta0 c1578
        rw [c1578] at p273
        obtain ⟨v1580, c1581⟩ : ∃ v, I230 a0 13 = v := ⟨_, rfl⟩
        rw [c1581] at p274
        obtain ⟨v1582, c1583⟩ : ∃ v, I230 a0 14 = v := ⟨_, rfl⟩
        rw [c1583] at p275
        replace hF := hF.neg (by omega)
        replace hP := hP.neg (by omega)
        replace hF := hF.neg (by omega)
        replace hP := hP.neg (by omega)
        replace hF := hF.pos (by omega)
        replace hP := hP.pos (by omega)
        refine tr_istore dX12_readTurner_133 (by decide) (by decide) ?_
        refine tr_aload_n dX12_readTurner_135 hl0 ?_
        refine tr_ldcwS dX12_readTurner_136 ld12_327 ?_
        refine q_iconst dX12_readTurner_139 (by decide) ?_
        intro v1584 h1585
        refine q_bipush dX12_readTurner_140 (by decide +kernel) ?_
        intro v1586 h1587
        refine q_callVi hE (M' := mX12_readPart) (as := [_, _, _]) dX12_readTurner_142 lk12_249 inX12_readPart seX12_readPart myX12_readPart (by decide) ⟨by decide, by decide⟩ rfl (kR15 hS238.1 ta0) (Nat.le_of_ble_eq_true rfl) rfl rfl (by decide) (by decide) (k_X12_readPart hS238.1 ta0 (by decide)) ?_
        rintro v1592 cn' K' N' I1588 R1589 L1590 ⟨rfl, rfl, rfl, rfl, g1591, p1593, w1594, -⟩
        have hS1595 := hS238.tr g1591 (by decide +kernel) (by decide +kernel)
        have c1596 : I1588 a1 4 = v45 := (g1591.cell ta1 (by decide +kernel)).trans c239
        have b1597 : 1 ≤ v1592.toInt ∧ v1592.toInt ≤ 20 := by omega
        clear p1593
        have hO1598 : FrO 14 a1 T I0 I1588 := hO240.st g1591 (by decide +kernel)
        have ov1599 := w1594.over (by rw [c1578]; omega)
        obtain ⟨v1600, c1601⟩ : ∃ v, I1588 a0 9 = v := ⟨_, rfl⟩
        have b1602 := iv15_9 hS1595.1 ta0 c1601
        obtain ⟨v1603, c1604⟩ : ∃ v, I1588 a0 13 = v := ⟨_, rfl⟩
        obtain ⟨v1605, c1606⟩ : ∃ v, I1588 a0 14 = v := ⟨_, rfl⟩
        (try rw [c1601] at ov1599)
        (try rw [c1604] at ov1599)
        (try rw [c1606] at ov1599)
        (try rw [c1578] at ov1599)
        (try rw [c1581] at ov1599)
        (try rw [c1583] at ov1599)
        refine tr_istore dX12_readTurner_145 (by decide) (by decide) ?_
        refine tr_aload_n dX12_readTurner_147 hl0 ?_
        refine tr_ldcS dX12_readTurner_148 ld12_253 ?_
        refine q_callVv hE (M' := mX12_needs) (as := [_]) dX12_readTurner_150 lk12_157 inX12_needs seX12_needs myX12_needs (by decide) ⟨by decide, by decide⟩ rfl (kR15 hS1595.1 ta0) (Nat.le_of_ble_eq_true rfl) rfl rfl (by decide) (by decide) (k_X12_needs hS1595.1 ta0 (by decide)) ?_
        rintro cn' K' N' I1607 R1608 L1609 ⟨rfl, rfl, rfl, rfl, g1610, w1612, -⟩
        have hS1613 := hS1595.tr g1610 (by decide +kernel) (by decide +kernel)
        have c1614 : I1607 a1 4 = v45 := (g1610.cell ta1 (by decide +kernel)).trans c1596
        have hO1615 : FrO 14 a1 T I0 I1607 := hO1598.st g1610 (by decide +kernel)
        have ov1616 := w1612.over (by rw [c1601]; omega)
        obtain ⟨v1617, c1618⟩ : ∃ v, I1607 a0 9 = v := ⟨_, rfl⟩
        have b1619 := iv15_9 hS1613.1 ta0 c1618
        obtain ⟨v1620, c1621⟩ : ∃ v, I1607 a0 13 = v := ⟨_, rfl⟩
        obtain ⟨v1622, c1623⟩ : ∃ v, I1607 a0 14 = v := ⟨_, rfl⟩
        (try rw [c1618] at ov1616)
        (try rw [c1621] at ov1616)
        (try rw [c1623] at ov1616)
        (try rw [c1601] at ov1616)
        (try rw [c1604] at ov1616)
        (try rw [c1606] at ov1616)
        refine q_iconst dX12_readTurner_153 (by decide) ?_
        intro v1624 h1625
        refine tr_istore dX12_readTurner_154 (by decide) (by decide) ?_
        refine q_iconst dX12_readTurner_156 (by decide) ?_
        intro v1626 h1627
        refine tr_istore dX12_readTurner_157 (by decide) (by decide) ?_
        refine tr_iload dX12_readTurner_159 rfl ?_
        refine q_if_eq 227 dX12_readTurner_161 (by decide) (fun h1628 => ?_) (fun h1628 => ?_)
        · skip
          exfalso; omega
        · skip
          refine tr_aload_n dX12_readTurner_164 hl0 ?_
          refine q_getI dX12_readTurner_165 fl12_99 (kR15 hS1613.1 ta0) c1618 ?_
          refine q_iconst dX12_readTurner_168 (by decide) ?_
          intro v1629 h1630
          refine q_icmp_eq 227 dX12_readTurner_169 (by decide) (fun h1631 => ?_) (fun h1631 => ?_)
          · skip
            refine tr_aload_n dX12_readTurner_227 hl0 ?_
            refine q_getI dX12_readTurner_228 fl12_99 (kR15 hS1613.1 ta0) c1618 ?_
            refine q_iconst dX12_readTurner_231 (by decide) ?_
            intro v1632 h1633
            refine q_icmp_ne 236 dX12_readTurner_232 (by decide) (fun h1634 => ?_) (fun h1634 => ?_)
            · skip
              exfalso; omega
            · skip
              have eF := hF.eq
              have eP := hP.eq
              obtain ⟨v1635, c1636⟩ : ∃ v, I1607 a0 10 = v := ⟨_, rfl⟩
              have b1637 := iv15_10 hS1613.1 ta0 c1636
              obtain ⟨v1638, c1639⟩ : ∃ v, I1607 a0 11 = v := ⟨_, rfl⟩
              obtain ⟨y1640, c1641⟩ : ∃ v, L1609 a0 15 = v := ⟨_, rfl⟩
              obtain ⟨v1642, c1643⟩ : ∃ v, I1607 a0 12 = v := ⟨_, rfl⟩
              obtain ⟨v1644, c1645⟩ : ∃ v, I1607 a0 8 = v := ⟨_, rfl⟩
              have b1646 := iv15_8 hS1613.1 ta0 c1645
              exact tr_vret hZ dX12_readTurner_235 rfl (by decide) (by decide) (hq _ _ _ ⟨hS1613, (fun b hb => (Option.some.inj (d2.symm.trans hb)) ▸ ((((((FrM.rf (R := R0) (b := a1) (T := T)).st g95 (by decide +kernel)).st g164 (by decide +kernel)).st g233 (by decide +kernel)).st g1591 (by decide +kernel)).st g1610 (by decide +kernel))), (fun dr hd => (Option.some.inj (d2.symm.trans hd)) ▸ hO1615), (Or.inr (⟨(by (try rw [w76]); first | done | with_reducible assumption | omega), (by (try rw [w76]); (try rw [c1618]); first | done | with_reducible assumption | omega), (by (try rw [w76]); (try rw [c1621]); first | done | with_reducible assumption | omega), (by (try rw [w76]); (try rw [c1623]); first | done | with_reducible assumption | omega), trivial⟩)), trivial⟩)
          · skip
            exfalso; omega
    · skip
      obtain ⟨v1647, c1648⟩ : ∃ v, I161 a0 9 = v := ⟨_, rfl⟩
      have b1649 := iv15_9 hS169.1 ta0 c1648
      rw [c1648] at p189
      obtain ⟨v1650, c1651⟩ : ∃ v, I161 a0 13 = v := ⟨_, rfl⟩
      rw [c1651] at p190
      obtain ⟨v1652, c1653⟩ : ∃ v, I161 a0 14 = v := ⟨_, rfl⟩
      rw [c1653] at p191
      replace hF := hF.pos (by omega)
      replace hP := hP.pos (by omega)
      refine tr_istore dX12_readTurner_121 (by decide) (by decide) ?_
      refine tr_aload_n dX12_readTurner_123 hl0 ?_
      refine tr_ldcwS dX12_readTurner_124 ld12_325 ?_
      refine q_iconst dX12_readTurner_127 (by decide) ?_
      intro v1654 h1655
      refine q_bipush dX12_readTurner_128 (by decide +kernel) ?_
      intro v1656 h1657
      refine q_callVi hE (M' := mX12_readPart) (as := [_, _, _]) dX12_readTurner_130 lk12_249 inX12_readPart seX12_readPart myX12_readPart (by decide) ⟨by decide, by decide⟩ rfl (kR15 hS169.1 ta0) (Nat.le_of_ble_eq_true rfl) rfl rfl (by decide) (by decide) (k_X12_readPart hS169.1 ta0 (by decide)) ?_
      rintro v1662 cn' K' N' I1658 R1659 L1660 ⟨rfl, rfl, rfl, rfl, g1661, p1663, w1664, -⟩
      have hS1665 := hS169.tr g1661 (by decide +kernel) (by decide +kernel)
      have c1666 : I1658 a1 4 = v45 := (g1661.cell ta1 (by decide +kernel)).trans c170
      have b1667 : 1 ≤ v1662.toInt ∧ v1662.toInt ≤ 8 := by omega
      clear p1663
      have hO1668 : FrO 14 a1 T I0 I1658 := hO171.st g1661 (by decide +kernel)
      have ov1669 := w1664.over (by rw [c1648]; omega)
      obtain ⟨v1670, c1671⟩ : ∃ v, I1658 a0 9 = v := ⟨_, rfl⟩
      have b1672 := iv15_9 hS1665.1 ta0 c1671
      obtain ⟨v1673, c1674⟩ : ∃ v, I1658 a0 13 = v := ⟨_, rfl⟩
      obtain ⟨v1675, c1676⟩ : ∃ v, I1658 a0 14 = v := ⟨_, rfl⟩
      (try rw [c1671] at ov1669)
      (try rw [c1674] at ov1669)
      (try rw [c1676] at ov1669)
      (try rw [c1648] at ov1669)
      (try rw [c1651] at ov1669)
      (try rw [c1653] at ov1669)
      refine tr_istore dX12_readTurner_133 (by decide) (by decide) ?_
      refine tr_aload_n dX12_readTurner_135 hl0 ?_
      refine tr_ldcwS dX12_readTurner_136 ld12_327 ?_
      refine q_iconst dX12_readTurner_139 (by decide) ?_
      intro v1677 h1678
      refine q_bipush dX12_readTurner_140 (by decide +kernel) ?_
      intro v1679 h1680
      refine q_callVi hE (M' := mX12_readPart) (as := [_, _, _]) dX12_readTurner_142 lk12_249 inX12_readPart seX12_readPart myX12_readPart (by decide) ⟨by decide, by decide⟩ rfl (kR15 hS1665.1 ta0) (Nat.le_of_ble_eq_true rfl) rfl rfl (by decide) (by decide) (k_X12_readPart hS1665.1 ta0 (by decide)) ?_
      rintro v1685 cn' K' N' I1681 R1682 L1683 ⟨rfl, rfl, rfl, rfl, g1684, p1686, w1687, -⟩
      have hS1688 := hS1665.tr g1684 (by decide +kernel) (by decide +kernel)
      have c1689 : I1681 a1 4 = v45 := (g1684.cell ta1 (by decide +kernel)).trans c1666
      have b1690 : 1 ≤ v1685.toInt ∧ v1685.toInt ≤ 20 := by omega
      clear p1686
      have hO1691 : FrO 14 a1 T I0 I1681 := hO1668.st g1684 (by decide +kernel)
      have ov1692 := w1687.over (by rw [c1671]; omega)
      obtain ⟨v1693, c1694⟩ : ∃ v, I1681 a0 9 = v := ⟨_, rfl⟩
      have b1695 := iv15_9 hS1688.1 ta0 c1694
      obtain ⟨v1696, c1697⟩ : ∃ v, I1681 a0 13 = v := ⟨_, rfl⟩
      obtain ⟨v1698, c1699⟩ : ∃ v, I1681 a0 14 = v := ⟨_, rfl⟩
      (try rw [c1694] at ov1692)
      (try rw [c1697] at ov1692)
      (try rw [c1699] at ov1692)
      (try rw [c1671] at ov1692)
      (try rw [c1674] at ov1692)
      (try rw [c1676] at ov1692)
      refine tr_istore dX12_readTurner_145 (by decide) (by decide) ?_
      refine tr_aload_n dX12_readTurner_147 hl0 ?_
      refine tr_ldcS dX12_readTurner_148 ld12_253 ?_
      refine q_callVv hE (M' := mX12_needs) (as := [_]) dX12_readTurner_150 lk12_157 inX12_needs seX12_needs myX12_needs (by decide) ⟨by decide, by decide⟩ rfl (kR15 hS1688.1 ta0) (Nat.le_of_ble_eq_true rfl) rfl rfl (by decide) (by decide) (k_X12_needs hS1688.1 ta0 (by decide)) ?_
      rintro cn' K' N' I1700 R1701 L1702 ⟨rfl, rfl, rfl, rfl, g1703, w1705, -⟩
      have hS1706 := hS1688.tr g1703 (by decide +kernel) (by decide +kernel)
      have c1707 : I1700 a1 4 = v45 := (g1703.cell ta1 (by decide +kernel)).trans c1689
      have hO1708 : FrO 14 a1 T I0 I1700 := hO1691.st g1703 (by decide +kernel)
      have ov1709 := w1705.over (by rw [c1694]; omega)
      obtain ⟨v1710, c1711⟩ : ∃ v, I1700 a0 9 = v := ⟨_, rfl⟩
      have b1712 := iv15_9 hS1706.1 ta0 c1711
      obtain ⟨v1713, c1714⟩ : ∃ v, I1700 a0 13 = v := ⟨_, rfl⟩
      obtain ⟨v1715, c1716⟩ : ∃ v, I1700 a0 14 = v := ⟨_, rfl⟩
      (try rw [c1711] at ov1709)
      (try rw [c1714] at ov1709)
      (try rw [c1716] at ov1709)
      (try rw [c1694] at ov1709)
      (try rw [c1697] at ov1709)
      (try rw [c1699] at ov1709)
      refine q_iconst dX12_readTurner_153 (by decide) ?_
      intro v1717 h1718
      refine tr_istore dX12_readTurner_154 (by decide) (by decide) ?_
      refine q_iconst dX12_readTurner_156 (by decide) ?_
      intro v1719 h1720
      refine tr_istore dX12_readTurner_157 (by decide) (by decide) ?_
      refine tr_iload dX12_readTurner_159 rfl ?_
      refine q_if_eq 227 dX12_readTurner_161 (by decide) (fun h1721 => ?_) (fun h1721 => ?_)
      · skip
        exfalso; omega
      · skip
        refine tr_aload_n dX12_readTurner_164 hl0 ?_
        refine q_getI dX12_readTurner_165 fl12_99 (kR15 hS1706.1 ta0) c1711 ?_
        refine q_iconst dX12_readTurner_168 (by decide) ?_
        intro v1722 h1723
        refine q_icmp_eq 227 dX12_readTurner_169 (by decide) (fun h1724 => ?_) (fun h1724 => ?_)
        · skip
          refine tr_aload_n dX12_readTurner_227 hl0 ?_
          refine q_getI dX12_readTurner_228 fl12_99 (kR15 hS1706.1 ta0) c1711 ?_
          refine q_iconst dX12_readTurner_231 (by decide) ?_
          intro v1725 h1726
          refine q_icmp_ne 236 dX12_readTurner_232 (by decide) (fun h1727 => ?_) (fun h1727 => ?_)
          · skip
            exfalso; omega
          · skip
            have eF := hF.eq
            have eP := hP.eq
            obtain ⟨v1728, c1729⟩ : ∃ v, I1700 a0 10 = v := ⟨_, rfl⟩
            have b1730 := iv15_10 hS1706.1 ta0 c1729
            obtain ⟨v1731, c1732⟩ : ∃ v, I1700 a0 11 = v := ⟨_, rfl⟩
            obtain ⟨y1733, c1734⟩ : ∃ v, L1702 a0 15 = v := ⟨_, rfl⟩
            obtain ⟨v1735, c1736⟩ : ∃ v, I1700 a0 12 = v := ⟨_, rfl⟩
            obtain ⟨v1737, c1738⟩ : ∃ v, I1700 a0 8 = v := ⟨_, rfl⟩
            have b1739 := iv15_8 hS1706.1 ta0 c1738
            exact tr_vret hZ dX12_readTurner_235 rfl (by decide) (by decide) (hq _ _ _ ⟨hS1706, (fun b hb => (Option.some.inj (d2.symm.trans hb)) ▸ ((((((FrM.rf (R := R0) (b := a1) (T := T)).st g95 (by decide +kernel)).st g164 (by decide +kernel)).st g1661 (by decide +kernel)).st g1684 (by decide +kernel)).st g1703 (by decide +kernel))), (fun dr hd => (Option.some.inj (d2.symm.trans hd)) ▸ hO1708), (Or.inr (⟨(by (try rw [w76]); first | done | with_reducible assumption | omega), (by (try rw [w76]); (try rw [c1711]); first | done | with_reducible assumption | omega), (by (try rw [w76]); (try rw [c1714]); first | done | with_reducible assumption | omega), (by (try rw [w76]); (try rw [c1716]); first | done | with_reducible assumption | omega), trivial⟩)), trivial⟩)
        · skip
          exfalso; omega
    · skip
      obtain ⟨v1740, c1741⟩ : ∃ v, I161 a0 9 = v := ⟨_, rfl⟩
      have b1742 := iv15_9 hS169.1 ta0 c1741
      rw [c1741] at p196
      obtain ⟨v1743, c1744⟩ : ∃ v, I161 a0 13 = v := ⟨_, rfl⟩
      rw [c1744] at p197
      obtain ⟨v1745, c1746⟩ : ∃ v, I161 a0 14 = v := ⟨_, rfl⟩
      rw [c1746] at p198
      replace hF := hF.neg (by omega)
      replace hP := hP.neg (by omega)
      replace hF := hF.pos (by omega)
      replace hP := hP.pos (by omega)
      refine tr_istore dX12_readTurner_121 (by decide) (by decide) ?_
      refine tr_aload_n dX12_readTurner_123 hl0 ?_
      refine tr_ldcwS dX12_readTurner_124 ld12_325 ?_
      refine q_iconst dX12_readTurner_127 (by decide) ?_
      intro v1747 h1748
      refine q_bipush dX12_readTurner_128 (by decide +kernel) ?_
      intro v1749 h1750
      refine q_callVi hE (M' := mX12_readPart) (as := [_, _, _]) dX12_readTurner_130 lk12_249 inX12_readPart seX12_readPart myX12_readPart (by decide) ⟨by decide, by decide⟩ rfl (kR15 hS169.1 ta0) (Nat.le_of_ble_eq_true rfl) rfl rfl (by decide) (by decide) (k_X12_readPart hS169.1 ta0 (by decide)) ?_
      rintro v1755 cn' K' N' I1751 R1752 L1753 ⟨rfl, rfl, rfl, rfl, g1754, p1756, w1757, -⟩
      have hS1758 := hS169.tr g1754 (by decide +kernel) (by decide +kernel)
      have c1759 : I1751 a1 4 = v45 := (g1754.cell ta1 (by decide +kernel)).trans c170
      have b1760 : 1 ≤ v1755.toInt ∧ v1755.toInt ≤ 8 := by omega
      clear p1756
      have hO1761 : FrO 14 a1 T I0 I1751 := hO171.st g1754 (by decide +kernel)
      have ov1762 := w1757.over (by rw [c1741]; omega)
      obtain ⟨v1763, c1764⟩ : ∃ v, I1751 a0 9 = v := ⟨_, rfl⟩
      have b1765 := iv15_9 hS1758.1 ta0 c1764
      obtain ⟨v1766, c1767⟩ : ∃ v, I1751 a0 13 = v := ⟨_, rfl⟩
      obtain ⟨v1768, c1769⟩ : ∃ v, I1751 a0 14 = v := ⟨_, rfl⟩
      (try rw [c1764] at ov1762)
      (try rw [c1767] at ov1762)
      (try rw [c1769] at ov1762)
      (try rw [c1741] at ov1762)
      (try rw [c1744] at ov1762)
      (try rw [c1746] at ov1762)
      refine tr_istore dX12_readTurner_133 (by decide) (by decide) ?_
      refine tr_aload_n dX12_readTurner_135 hl0 ?_
      refine tr_ldcwS dX12_readTurner_136 ld12_327 ?_
      refine q_iconst dX12_readTurner_139 (by decide) ?_
      intro v1770 h1771
      refine q_bipush dX12_readTurner_140 (by decide +kernel) ?_
      intro v1772 h1773
      refine q_callVi hE (M' := mX12_readPart) (as := [_, _, _]) dX12_readTurner_142 lk12_249 inX12_readPart seX12_readPart myX12_readPart (by decide) ⟨by decide, by decide⟩ rfl (kR15 hS1758.1 ta0) (Nat.le_of_ble_eq_true rfl) rfl rfl (by decide) (by decide) (k_X12_readPart hS1758.1 ta0 (by decide)) ?_
      rintro v1778 cn' K' N' I1774 R1775 L1776 ⟨rfl, rfl, rfl, rfl, g1777, p1779, w1780, -⟩
      have hS1781 := hS1758.tr g1777 (by decide +kernel) (by decide +kernel)
      have c1782 : I1774 a1 4 = v45 := (g1777.cell ta1 (by decide +kernel)).trans c1759
      have b1783 : 1 ≤ v1778.toInt ∧ v1778.toInt ≤ 20 := by omega
      clear p1779
      have hO1784 : FrO 14 a1 T I0 I1774 := hO1761.st g1777 (by decide +kernel)
      have ov1785 := w1780.over (by rw [c1764]; omega)
      obtain ⟨v1786, c1787⟩ : ∃ v, I1774 a0 9 = v := ⟨_, rfl⟩
      have b1788 := iv15_9 hS1781.1 ta0 c1787
      obtain ⟨v1789, c1790⟩ : ∃ v, I1774 a0 13 = v := ⟨_, rfl⟩
      obtain ⟨v1791, c1792⟩ : ∃ v, I1774 a0 14 = v := ⟨_, rfl⟩
      (try rw [c1787] at ov1785)
      (try rw [c1790] at ov1785)
      (try rw [c1792] at ov1785)
      (try rw [c1764] at ov1785)
      (try rw [c1767] at ov1785)
      (try rw [c1769] at ov1785)
      refine tr_istore dX12_readTurner_145 (by decide) (by decide) ?_
      refine tr_aload_n dX12_readTurner_147 hl0 ?_
      refine tr_ldcS dX12_readTurner_148 ld12_253 ?_
      refine q_callVv hE (M' := mX12_needs) (as := [_]) dX12_readTurner_150 lk12_157 inX12_needs seX12_needs myX12_needs (by decide) ⟨by decide, by decide⟩ rfl (kR15 hS1781.1 ta0) (Nat.le_of_ble_eq_true rfl) rfl rfl (by decide) (by decide) (k_X12_needs hS1781.1 ta0 (by decide)) ?_
      rintro cn' K' N' I1793 R1794 L1795 ⟨rfl, rfl, rfl, rfl, g1796, w1798, -⟩
      have hS1799 := hS1781.tr g1796 (by decide +kernel) (by decide +kernel)
      have c1800 : I1793 a1 4 = v45 := (g1796.cell ta1 (by decide +kernel)).trans c1782
      have hO1801 : FrO 14 a1 T I0 I1793 := hO1784.st g1796 (by decide +kernel)
      have ov1802 := w1798.over (by rw [c1787]; omega)
      obtain ⟨v1803, c1804⟩ : ∃ v, I1793 a0 9 = v := ⟨_, rfl⟩
      have b1805 := iv15_9 hS1799.1 ta0 c1804
      obtain ⟨v1806, c1807⟩ : ∃ v, I1793 a0 13 = v := ⟨_, rfl⟩
      obtain ⟨v1808, c1809⟩ : ∃ v, I1793 a0 14 = v := ⟨_, rfl⟩
      (try rw [c1804] at ov1802)
      (try rw [c1807] at ov1802)
      (try rw [c1809] at ov1802)
      (try rw [c1787] at ov1802)
      (try rw [c1790] at ov1802)
      (try rw [c1792] at ov1802)
      refine q_iconst dX12_readTurner_153 (by decide) ?_
      intro v1810 h1811
      refine tr_istore dX12_readTurner_154 (by decide) (by decide) ?_
      refine q_iconst dX12_readTurner_156 (by decide) ?_
      intro v1812 h1813
      refine tr_istore dX12_readTurner_157 (by decide) (by decide) ?_
      refine tr_iload dX12_readTurner_159 rfl ?_
      refine q_if_eq 227 dX12_readTurner_161 (by decide) (fun h1814 => ?_) (fun h1814 => ?_)
      · skip
        exfalso; omega
      · skip
        refine tr_aload_n dX12_readTurner_164 hl0 ?_
        refine q_getI dX12_readTurner_165 fl12_99 (kR15 hS1799.1 ta0) c1804 ?_
        refine q_iconst dX12_readTurner_168 (by decide) ?_
        intro v1815 h1816
        refine q_icmp_eq 227 dX12_readTurner_169 (by decide) (fun h1817 => ?_) (fun h1817 => ?_)
        · skip
          refine tr_aload_n dX12_readTurner_227 hl0 ?_
          refine q_getI dX12_readTurner_228 fl12_99 (kR15 hS1799.1 ta0) c1804 ?_
          refine q_iconst dX12_readTurner_231 (by decide) ?_
          intro v1818 h1819
          refine q_icmp_ne 236 dX12_readTurner_232 (by decide) (fun h1820 => ?_) (fun h1820 => ?_)
          · skip
            exfalso; omega
          · skip
            have eF := hF.eq
            have eP := hP.eq
            obtain ⟨v1821, c1822⟩ : ∃ v, I1793 a0 10 = v := ⟨_, rfl⟩
            have b1823 := iv15_10 hS1799.1 ta0 c1822
            obtain ⟨v1824, c1825⟩ : ∃ v, I1793 a0 11 = v := ⟨_, rfl⟩
            obtain ⟨y1826, c1827⟩ : ∃ v, L1795 a0 15 = v := ⟨_, rfl⟩
            obtain ⟨v1828, c1829⟩ : ∃ v, I1793 a0 12 = v := ⟨_, rfl⟩
            obtain ⟨v1830, c1831⟩ : ∃ v, I1793 a0 8 = v := ⟨_, rfl⟩
            have b1832 := iv15_8 hS1799.1 ta0 c1831
            exact tr_vret hZ dX12_readTurner_235 rfl (by decide) (by decide) (hq _ _ _ ⟨hS1799, (fun b hb => (Option.some.inj (d2.symm.trans hb)) ▸ ((((((FrM.rf (R := R0) (b := a1) (T := T)).st g95 (by decide +kernel)).st g164 (by decide +kernel)).st g1754 (by decide +kernel)).st g1777 (by decide +kernel)).st g1796 (by decide +kernel))), (fun dr hd => (Option.some.inj (d2.symm.trans hd)) ▸ hO1801), (Or.inr (⟨(by (try rw [w76]); first | done | with_reducible assumption | omega), (by (try rw [w76]); (try rw [c1804]); first | done | with_reducible assumption | omega), (by (try rw [w76]); (try rw [c1807]); first | done | with_reducible assumption | omega), (by (try rw [w76]); (try rw [c1809]); first | done | with_reducible assumption | omega), trivial⟩)), trivial⟩)
        · skip
          exfalso; omega
    · skip
      obtain ⟨v1833, c1834⟩ : ∃ v, I161 a0 9 = v := ⟨_, rfl⟩
      have b1835 := iv15_9 hS169.1 ta0 c1834
      rw [c1834] at p204
      obtain ⟨v1836, c1837⟩ : ∃ v, I161 a0 13 = v := ⟨_, rfl⟩
      rw [c1837] at p205
      obtain ⟨v1838, c1839⟩ : ∃ v, I161 a0 14 = v := ⟨_, rfl⟩
      rw [c1839] at p206
      replace hF := hF.neg (by omega)
      replace hP := hP.neg (by omega)
      replace hF := hF.neg (by omega)
      replace hP := hP.neg (by omega)
      replace hF := hF.pos (by omega)
      replace hP := hP.pos (by omega)
      refine tr_istore dX12_readTurner_121 (by decide) (by decide) ?_
      refine tr_aload_n dX12_readTurner_123 hl0 ?_
      refine tr_ldcwS dX12_readTurner_124 ld12_325 ?_
      refine q_iconst dX12_readTurner_127 (by decide) ?_
      intro v1840 h1841
      refine q_bipush dX12_readTurner_128 (by decide +kernel) ?_
      intro v1842 h1843
      refine q_callVi hE (M' := mX12_readPart) (as := [_, _, _]) dX12_readTurner_130 lk12_249 inX12_readPart seX12_readPart myX12_readPart (by decide) ⟨by decide, by decide⟩ rfl (kR15 hS169.1 ta0) (Nat.le_of_ble_eq_true rfl) rfl rfl (by decide) (by decide) (k_X12_readPart hS169.1 ta0 (by decide)) ?_
      rintro v1848 cn' K' N' I1844 R1845 L1846 ⟨rfl, rfl, rfl, rfl, g1847, p1849, w1850, -⟩
      have hS1851 := hS169.tr g1847 (by decide +kernel) (by decide +kernel)
      have c1852 : I1844 a1 4 = v45 := (g1847.cell ta1 (by decide +kernel)).trans c170
      have b1853 : 1 ≤ v1848.toInt ∧ v1848.toInt ≤ 8 := by omega
      clear p1849
      have hO1854 : FrO 14 a1 T I0 I1844 := hO171.st g1847 (by decide +kernel)
      have ov1855 := w1850.over (by rw [c1834]; omega)
      obtain ⟨v1856, c1857⟩ : ∃ v, I1844 a0 9 = v := ⟨_, rfl⟩
      have b1858 := iv15_9 hS1851.1 ta0 c1857
      obtain ⟨v1859, c1860⟩ : ∃ v, I1844 a0 13 = v := ⟨_, rfl⟩
      obtain ⟨v1861, c1862⟩ : ∃ v, I1844 a0 14 = v := ⟨_, rfl⟩
      (try rw [c1857] at ov1855)
      (try rw [c1860] at ov1855)
      (try rw [c1862] at ov1855)
      (try rw [c1834] at ov1855)
      (try rw [c1837] at ov1855)
      (try rw [c1839] at ov1855)
      refine tr_istore dX12_readTurner_133 (by decide) (by decide) ?_
      refine tr_aload_n dX12_readTurner_135 hl0 ?_
      refine tr_ldcwS dX12_readTurner_136 ld12_327 ?_
      refine q_iconst dX12_readTurner_139 (by decide) ?_
      intro v1863 h1864
      refine q_bipush dX12_readTurner_140 (by decide +kernel) ?_
      intro v1865 h1866
      refine q_callVi hE (M' := mX12_readPart) (as := [_, _, _]) dX12_readTurner_142 lk12_249 inX12_readPart seX12_readPart myX12_readPart (by decide) ⟨by decide, by decide⟩ rfl (kR15 hS1851.1 ta0) (Nat.le_of_ble_eq_true rfl) rfl rfl (by decide) (by decide) (k_X12_readPart hS1851.1 ta0 (by decide)) ?_
      rintro v1871 cn' K' N' I1867 R1868 L1869 ⟨rfl, rfl, rfl, rfl, g1870, p1872, w1873, -⟩
      have hS1874 := hS1851.tr g1870 (by decide +kernel) (by decide +kernel)
      have c1875 : I1867 a1 4 = v45 := (g1870.cell ta1 (by decide +kernel)).trans c1852
      have b1876 : 1 ≤ v1871.toInt ∧ v1871.toInt ≤ 20 := by omega
      clear p1872
      have hO1877 : FrO 14 a1 T I0 I1867 := hO1854.st g1870 (by decide +kernel)
      have ov1878 := w1873.over (by rw [c1857]; omega)
      obtain ⟨v1879, c1880⟩ : ∃ v, I1867 a0 9 = v := ⟨_, rfl⟩
      have b1881 := iv15_9 hS1874.1 ta0 c1880
      obtain ⟨v1882, c1883⟩ : ∃ v, I1867 a0 13 = v := ⟨_, rfl⟩
      obtain ⟨v1884, c1885⟩ : ∃ v, I1867 a0 14 = v := ⟨_, rfl⟩
      (try rw [c1880] at ov1878)
      (try rw [c1883] at ov1878)
      (try rw [c1885] at ov1878)
      (try rw [c1857] at ov1878)
      (try rw [c1860] at ov1878)
      (try rw [c1862] at ov1878)
      refine tr_istore dX12_readTurner_145 (by decide) (by decide) ?_
      refine tr_aload_n dX12_readTurner_147 hl0 ?_
      refine tr_ldcS dX12_readTurner_148 ld12_253 ?_
      refine q_callVv hE (M' := mX12_needs) (as := [_]) dX12_readTurner_150 lk12_157 inX12_needs seX12_needs myX12_needs (by decide) ⟨by decide, by decide⟩ rfl (kR15 hS1874.1 ta0) (Nat.le_of_ble_eq_true rfl) rfl rfl (by decide) (by decide) (k_X12_needs hS1874.1 ta0 (by decide)) ?_
      rintro cn' K' N' I1886 R1887 L1888 ⟨rfl, rfl, rfl, rfl, g1889, w1891, -⟩
      have hS1892 := hS1874.tr g1889 (by decide +kernel) (by decide +kernel)
      have c1893 : I1886 a1 4 = v45 := (g1889.cell ta1 (by decide +kernel)).trans c1875
      have hO1894 : FrO 14 a1 T I0 I1886 := hO1877.st g1889 (by decide +kernel)
      have ov1895 := w1891.over (by rw [c1880]; omega)
      obtain ⟨v1896, c1897⟩ : ∃ v, I1886 a0 9 = v := ⟨_, rfl⟩
      have b1898 := iv15_9 hS1892.1 ta0 c1897
      obtain ⟨v1899, c1900⟩ : ∃ v, I1886 a0 13 = v := ⟨_, rfl⟩
      obtain ⟨v1901, c1902⟩ : ∃ v, I1886 a0 14 = v := ⟨_, rfl⟩
      (try rw [c1897] at ov1895)
      (try rw [c1900] at ov1895)
      (try rw [c1902] at ov1895)
      (try rw [c1880] at ov1895)
      (try rw [c1883] at ov1895)
      (try rw [c1885] at ov1895)
      refine q_iconst dX12_readTurner_153 (by decide) ?_
      intro v1903 h1904
      refine tr_istore dX12_readTurner_154 (by decide) (by decide) ?_
      refine q_iconst dX12_readTurner_156 (by decide) ?_
      intro v1905 h1906
      refine tr_istore dX12_readTurner_157 (by decide) (by decide) ?_
      refine tr_iload dX12_readTurner_159 rfl ?_
      refine q_if_eq 227 dX12_readTurner_161 (by decide) (fun h1907 => ?_) (fun h1907 => ?_)
      · skip
        exfalso; omega
      · skip
        refine tr_aload_n dX12_readTurner_164 hl0 ?_
        refine q_getI dX12_readTurner_165 fl12_99 (kR15 hS1892.1 ta0) c1897 ?_
        refine q_iconst dX12_readTurner_168 (by decide) ?_
        intro v1908 h1909
        refine q_icmp_eq 227 dX12_readTurner_169 (by decide) (fun h1910 => ?_) (fun h1910 => ?_)
        · skip
          refine tr_aload_n dX12_readTurner_227 hl0 ?_
          refine q_getI dX12_readTurner_228 fl12_99 (kR15 hS1892.1 ta0) c1897 ?_
          refine q_iconst dX12_readTurner_231 (by decide) ?_
          intro v1911 h1912
          refine q_icmp_ne 236 dX12_readTurner_232 (by decide) (fun h1913 => ?_) (fun h1913 => ?_)
          · skip
            exfalso; omega
          · skip
            have eF := hF.eq
            have eP := hP.eq
            obtain ⟨v1914, c1915⟩ : ∃ v, I1886 a0 10 = v := ⟨_, rfl⟩
            have b1916 := iv15_10 hS1892.1 ta0 c1915
            obtain ⟨v1917, c1918⟩ : ∃ v, I1886 a0 11 = v := ⟨_, rfl⟩
            obtain ⟨y1919, c1920⟩ : ∃ v, L1888 a0 15 = v := ⟨_, rfl⟩
            obtain ⟨v1921, c1922⟩ : ∃ v, I1886 a0 12 = v := ⟨_, rfl⟩
            obtain ⟨v1923, c1924⟩ : ∃ v, I1886 a0 8 = v := ⟨_, rfl⟩
            have b1925 := iv15_8 hS1892.1 ta0 c1924
            exact tr_vret hZ dX12_readTurner_235 rfl (by decide) (by decide) (hq _ _ _ ⟨hS1892, (fun b hb => (Option.some.inj (d2.symm.trans hb)) ▸ ((((((FrM.rf (R := R0) (b := a1) (T := T)).st g95 (by decide +kernel)).st g164 (by decide +kernel)).st g1847 (by decide +kernel)).st g1870 (by decide +kernel)).st g1889 (by decide +kernel))), (fun dr hd => (Option.some.inj (d2.symm.trans hd)) ▸ hO1894), (Or.inr (⟨(by (try rw [w76]); first | done | with_reducible assumption | omega), (by (try rw [w76]); (try rw [c1897]); first | done | with_reducible assumption | omega), (by (try rw [w76]); (try rw [c1900]); first | done | with_reducible assumption | omega), (by (try rw [w76]); (try rw [c1902]); first | done | with_reducible assumption | omega), trivial⟩)), trivial⟩)
        · skip
          exfalso; omega
  · skip
    obtain ⟨v1926, c1927⟩ : ∃ v, I92 a0 9 = v := ⟨_, rfl⟩
    have b1928 := iv15_9 hS100.1 ta0 c1927
    rw [c1927] at p120
    obtain ⟨v1929, c1930⟩ : ∃ v, I92 a0 13 = v := ⟨_, rfl⟩
    rw [c1930] at p121
    obtain ⟨v1931, c1932⟩ : ∃ v, I92 a0 14 = v := ⟨_, rfl⟩
    rw [c1932] at p122
    replace hF := hF.pos (by omega)
    replace hP := hP.pos (by omega)
    refine tr_istore dX12_readTurner_101 (by decide) (by decide) ?_
    refine tr_aload_n dX12_readTurner_103 hl0 ?_
    refine tr_ldcwS dX12_readTurner_104 ld12_272 ?_
    refine tr_iload dX12_readTurner_107 rfl ?_
    refine q_iconst dX12_readTurner_109 (by decide) ?_
    intro v1933 h1934
    refine q_iaddE dX12_readTurner_110 (by intros; omega) ?_
    intro v1935 h1936
    refine tr_aload_n dX12_readTurner_111 hl0 ?_
    refine tr_getR dX12_readTurner_112 fl12_188 (kR15 hS100.1 ta0) d2 ?_
    refine q_getI dX12_readTurner_115 fl12_192 (kR14 hS100.1 ta1) ((hS100.cell ta1 (by decide +kernel)).trans c30) ?_
    refine q_callVi hE (M' := mX12_readPart) (as := [_, _, _]) dX12_readTurner_118 lk12_249 inX12_readPart seX12_readPart myX12_readPart (by decide) ⟨by decide, by decide⟩ rfl (kR15 hS100.1 ta0) (Nat.le_of_ble_eq_true rfl) rfl rfl (by decide) (by decide) (k_X12_readPart hS100.1 ta0 (by decide)) ?_
    rintro v1941 cn' K' N' I1937 R1938 L1939 ⟨rfl, rfl, rfl, rfl, g1940, p1942, w1943, -⟩
    have hS1944 := hS100.tr g1940 (by decide +kernel) (by decide +kernel)
    have c1945 : I1937 a1 4 = v45 := (g1940.cell ta1 (by decide +kernel)).trans c101
    have b1946 : 1 ≤ v1941.toInt ∧ v1941.toInt ≤ 240 := by omega
    clear p1942
    have hO1947 : FrO 14 a1 T I0 I1937 := hO102.st g1940 (by decide +kernel)
    have ov1948 := w1943.over (by rw [c1927]; omega)
    obtain ⟨v1949, c1950⟩ : ∃ v, I1937 a0 9 = v := ⟨_, rfl⟩
    have b1951 := iv15_9 hS1944.1 ta0 c1950
    obtain ⟨v1952, c1953⟩ : ∃ v, I1937 a0 13 = v := ⟨_, rfl⟩
    obtain ⟨v1954, c1955⟩ : ∃ v, I1937 a0 14 = v := ⟨_, rfl⟩
    (try rw [c1950] at ov1948)
    (try rw [c1953] at ov1948)
    (try rw [c1955] at ov1948)
    (try rw [c1927] at ov1948)
    (try rw [c1930] at ov1948)
    (try rw [c1932] at ov1948)
    refine tr_istore dX12_readTurner_121 (by decide) (by decide) ?_
    refine tr_aload_n dX12_readTurner_123 hl0 ?_
    refine tr_ldcwS dX12_readTurner_124 ld12_325 ?_
    refine q_iconst dX12_readTurner_127 (by decide) ?_
    intro v1956 h1957
    refine q_bipush dX12_readTurner_128 (by decide +kernel) ?_
    intro v1958 h1959
    refine q_callVi hE (M' := mX12_readPart) (as := [_, _, _]) dX12_readTurner_130 lk12_249 inX12_readPart seX12_readPart myX12_readPart (by decide) ⟨by decide, by decide⟩ rfl (kR15 hS1944.1 ta0) (Nat.le_of_ble_eq_true rfl) rfl rfl (by decide) (by decide) (k_X12_readPart hS1944.1 ta0 (by decide)) ?_
    rintro v1964 cn' K' N' I1960 R1961 L1962 ⟨rfl, rfl, rfl, rfl, g1963, p1965, w1966, -⟩
    have hS1967 := hS1944.tr g1963 (by decide +kernel) (by decide +kernel)
    have c1968 : I1960 a1 4 = v45 := (g1963.cell ta1 (by decide +kernel)).trans c1945
    have b1969 : 1 ≤ v1964.toInt ∧ v1964.toInt ≤ 8 := by omega
    clear p1965
    have hO1970 : FrO 14 a1 T I0 I1960 := hO1947.st g1963 (by decide +kernel)
    have ov1971 := w1966.over (by rw [c1950]; omega)
    obtain ⟨v1972, c1973⟩ : ∃ v, I1960 a0 9 = v := ⟨_, rfl⟩
    have b1974 := iv15_9 hS1967.1 ta0 c1973
    obtain ⟨v1975, c1976⟩ : ∃ v, I1960 a0 13 = v := ⟨_, rfl⟩
    obtain ⟨v1977, c1978⟩ : ∃ v, I1960 a0 14 = v := ⟨_, rfl⟩
    (try rw [c1973] at ov1971)
    (try rw [c1976] at ov1971)
    (try rw [c1978] at ov1971)
    (try rw [c1950] at ov1971)
    (try rw [c1953] at ov1971)
    (try rw [c1955] at ov1971)
    refine tr_istore dX12_readTurner_133 (by decide) (by decide) ?_
    refine tr_aload_n dX12_readTurner_135 hl0 ?_
    refine tr_ldcwS dX12_readTurner_136 ld12_327 ?_
    refine q_iconst dX12_readTurner_139 (by decide) ?_
    intro v1979 h1980
    refine q_bipush dX12_readTurner_140 (by decide +kernel) ?_
    intro v1981 h1982
    refine q_callVi hE (M' := mX12_readPart) (as := [_, _, _]) dX12_readTurner_142 lk12_249 inX12_readPart seX12_readPart myX12_readPart (by decide) ⟨by decide, by decide⟩ rfl (kR15 hS1967.1 ta0) (Nat.le_of_ble_eq_true rfl) rfl rfl (by decide) (by decide) (k_X12_readPart hS1967.1 ta0 (by decide)) ?_
    rintro v1987 cn' K' N' I1983 R1984 L1985 ⟨rfl, rfl, rfl, rfl, g1986, p1988, w1989, -⟩
    have hS1990 := hS1967.tr g1986 (by decide +kernel) (by decide +kernel)
    have c1991 : I1983 a1 4 = v45 := (g1986.cell ta1 (by decide +kernel)).trans c1968
    have b1992 : 1 ≤ v1987.toInt ∧ v1987.toInt ≤ 20 := by omega
    clear p1988
    have hO1993 : FrO 14 a1 T I0 I1983 := hO1970.st g1986 (by decide +kernel)
    have ov1994 := w1989.over (by rw [c1973]; omega)
    obtain ⟨v1995, c1996⟩ : ∃ v, I1983 a0 9 = v := ⟨_, rfl⟩
    have b1997 := iv15_9 hS1990.1 ta0 c1996
    obtain ⟨v1998, c1999⟩ : ∃ v, I1983 a0 13 = v := ⟨_, rfl⟩
    obtain ⟨v2000, c2001⟩ : ∃ v, I1983 a0 14 = v := ⟨_, rfl⟩
    (try rw [c1996] at ov1994)
    (try rw [c1999] at ov1994)
    (try rw [c2001] at ov1994)
    (try rw [c1973] at ov1994)
    (try rw [c1976] at ov1994)
    (try rw [c1978] at ov1994)
    refine tr_istore dX12_readTurner_145 (by decide) (by decide) ?_
    refine tr_aload_n dX12_readTurner_147 hl0 ?_
    refine tr_ldcS dX12_readTurner_148 ld12_253 ?_
    refine q_callVv hE (M' := mX12_needs) (as := [_]) dX12_readTurner_150 lk12_157 inX12_needs seX12_needs myX12_needs (by decide) ⟨by decide, by decide⟩ rfl (kR15 hS1990.1 ta0) (Nat.le_of_ble_eq_true rfl) rfl rfl (by decide) (by decide) (k_X12_needs hS1990.1 ta0 (by decide)) ?_
    rintro cn' K' N' I2002 R2003 L2004 ⟨rfl, rfl, rfl, rfl, g2005, w2007, -⟩
    have hS2008 := hS1990.tr g2005 (by decide +kernel) (by decide +kernel)
    have c2009 : I2002 a1 4 = v45 := (g2005.cell ta1 (by decide +kernel)).trans c1991
    have hO2010 : FrO 14 a1 T I0 I2002 := hO1993.st g2005 (by decide +kernel)
    have ov2011 := w2007.over (by rw [c1996]; omega)
    obtain ⟨v2012, c2013⟩ : ∃ v, I2002 a0 9 = v := ⟨_, rfl⟩
    have b2014 := iv15_9 hS2008.1 ta0 c2013
    obtain ⟨v2015, c2016⟩ : ∃ v, I2002 a0 13 = v := ⟨_, rfl⟩
    obtain ⟨v2017, c2018⟩ : ∃ v, I2002 a0 14 = v := ⟨_, rfl⟩
    (try rw [c2013] at ov2011)
    (try rw [c2016] at ov2011)
    (try rw [c2018] at ov2011)
    (try rw [c1996] at ov2011)
    (try rw [c1999] at ov2011)
    (try rw [c2001] at ov2011)
    refine q_iconst dX12_readTurner_153 (by decide) ?_
    intro v2019 h2020
    refine tr_istore dX12_readTurner_154 (by decide) (by decide) ?_
    refine q_iconst dX12_readTurner_156 (by decide) ?_
    intro v2021 h2022
    refine tr_istore dX12_readTurner_157 (by decide) (by decide) ?_
    refine tr_iload dX12_readTurner_159 rfl ?_
    refine q_if_eq 227 dX12_readTurner_161 (by decide) (fun h2023 => ?_) (fun h2023 => ?_)
    · skip
      exfalso; omega
    · skip
      refine tr_aload_n dX12_readTurner_164 hl0 ?_
      refine q_getI dX12_readTurner_165 fl12_99 (kR15 hS2008.1 ta0) c2013 ?_
      refine q_iconst dX12_readTurner_168 (by decide) ?_
      intro v2024 h2025
      refine q_icmp_eq 227 dX12_readTurner_169 (by decide) (fun h2026 => ?_) (fun h2026 => ?_)
      · skip
        refine tr_aload_n dX12_readTurner_227 hl0 ?_
        refine q_getI dX12_readTurner_228 fl12_99 (kR15 hS2008.1 ta0) c2013 ?_
        refine q_iconst dX12_readTurner_231 (by decide) ?_
        intro v2027 h2028
        refine q_icmp_ne 236 dX12_readTurner_232 (by decide) (fun h2029 => ?_) (fun h2029 => ?_)
        · skip
          exfalso; omega
        · skip
          have eF := hF.eq
          have eP := hP.eq
          obtain ⟨v2030, c2031⟩ : ∃ v, I2002 a0 10 = v := ⟨_, rfl⟩
          have b2032 := iv15_10 hS2008.1 ta0 c2031
          obtain ⟨v2033, c2034⟩ : ∃ v, I2002 a0 11 = v := ⟨_, rfl⟩
          obtain ⟨y2035, c2036⟩ : ∃ v, L2004 a0 15 = v := ⟨_, rfl⟩
          obtain ⟨v2037, c2038⟩ : ∃ v, I2002 a0 12 = v := ⟨_, rfl⟩
          obtain ⟨v2039, c2040⟩ : ∃ v, I2002 a0 8 = v := ⟨_, rfl⟩
          have b2041 := iv15_8 hS2008.1 ta0 c2040
          exact tr_vret hZ dX12_readTurner_235 rfl (by decide) (by decide) (hq _ _ _ ⟨hS2008, (fun b hb => (Option.some.inj (d2.symm.trans hb)) ▸ ((((((FrM.rf (R := R0) (b := a1) (T := T)).st g95 (by decide +kernel)).st g1940 (by decide +kernel)).st g1963 (by decide +kernel)).st g1986 (by decide +kernel)).st g2005 (by decide +kernel))), (fun dr hd => (Option.some.inj (d2.symm.trans hd)) ▸ hO2010), (Or.inr (⟨(by (try rw [w76]); first | done | with_reducible assumption | omega), (by (try rw [w76]); (try rw [c2013]); first | done | with_reducible assumption | omega), (by (try rw [w76]); (try rw [c2016]); first | done | with_reducible assumption | omega), (by (try rw [w76]); (try rw [c2018]); first | done | with_reducible assumption | omega), trivial⟩)), trivial⟩)
      · skip
        exfalso; omega
  · skip
    obtain ⟨v2042, c2043⟩ : ∃ v, I92 a0 9 = v := ⟨_, rfl⟩
    have b2044 := iv15_9 hS100.1 ta0 c2043
    rw [c2043] at p127
    obtain ⟨v2045, c2046⟩ : ∃ v, I92 a0 13 = v := ⟨_, rfl⟩
    rw [c2046] at p128
    obtain ⟨v2047, c2048⟩ : ∃ v, I92 a0 14 = v := ⟨_, rfl⟩
    rw [c2048] at p129
    replace hF := hF.neg (by omega)
    replace hP := hP.neg (by omega)
    replace hF := hF.pos (by omega)
    replace hP := hP.pos (by omega)
    refine tr_istore dX12_readTurner_101 (by decide) (by decide) ?_
    refine tr_aload_n dX12_readTurner_103 hl0 ?_
    refine tr_ldcwS dX12_readTurner_104 ld12_272 ?_
    refine tr_iload dX12_readTurner_107 rfl ?_
    refine q_iconst dX12_readTurner_109 (by decide) ?_
    intro v2049 h2050
    refine q_iaddE dX12_readTurner_110 (by intros; omega) ?_
    intro v2051 h2052
    refine tr_aload_n dX12_readTurner_111 hl0 ?_
    refine tr_getR dX12_readTurner_112 fl12_188 (kR15 hS100.1 ta0) d2 ?_
    refine q_getI dX12_readTurner_115 fl12_192 (kR14 hS100.1 ta1) ((hS100.cell ta1 (by decide +kernel)).trans c30) ?_
    refine q_callVi hE (M' := mX12_readPart) (as := [_, _, _]) dX12_readTurner_118 lk12_249 inX12_readPart seX12_readPart myX12_readPart (by decide) ⟨by decide, by decide⟩ rfl (kR15 hS100.1 ta0) (Nat.le_of_ble_eq_true rfl) rfl rfl (by decide) (by decide) (k_X12_readPart hS100.1 ta0 (by decide)) ?_
    rintro v2057 cn' K' N' I2053 R2054 L2055 ⟨rfl, rfl, rfl, rfl, g2056, p2058, w2059, -⟩
    have hS2060 := hS100.tr g2056 (by decide +kernel) (by decide +kernel)
    have c2061 : I2053 a1 4 = v45 := (g2056.cell ta1 (by decide +kernel)).trans c101
    have b2062 : 1 ≤ v2057.toInt ∧ v2057.toInt ≤ 240 := by omega
    clear p2058
    have hO2063 : FrO 14 a1 T I0 I2053 := hO102.st g2056 (by decide +kernel)
    have ov2064 := w2059.over (by rw [c2043]; omega)
    obtain ⟨v2065, c2066⟩ : ∃ v, I2053 a0 9 = v := ⟨_, rfl⟩
    have b2067 := iv15_9 hS2060.1 ta0 c2066
    obtain ⟨v2068, c2069⟩ : ∃ v, I2053 a0 13 = v := ⟨_, rfl⟩
    obtain ⟨v2070, c2071⟩ : ∃ v, I2053 a0 14 = v := ⟨_, rfl⟩
    (try rw [c2066] at ov2064)
    (try rw [c2069] at ov2064)
    (try rw [c2071] at ov2064)
    (try rw [c2043] at ov2064)
    (try rw [c2046] at ov2064)
    (try rw [c2048] at ov2064)
    refine tr_istore dX12_readTurner_121 (by decide) (by decide) ?_
    refine tr_aload_n dX12_readTurner_123 hl0 ?_
    refine tr_ldcwS dX12_readTurner_124 ld12_325 ?_
    refine q_iconst dX12_readTurner_127 (by decide) ?_
    intro v2072 h2073
    refine q_bipush dX12_readTurner_128 (by decide +kernel) ?_
    intro v2074 h2075
    refine q_callVi hE (M' := mX12_readPart) (as := [_, _, _]) dX12_readTurner_130 lk12_249 inX12_readPart seX12_readPart myX12_readPart (by decide) ⟨by decide, by decide⟩ rfl (kR15 hS2060.1 ta0) (Nat.le_of_ble_eq_true rfl) rfl rfl (by decide) (by decide) (k_X12_readPart hS2060.1 ta0 (by decide)) ?_
    rintro v2080 cn' K' N' I2076 R2077 L2078 ⟨rfl, rfl, rfl, rfl, g2079, p2081, w2082, -⟩
    have hS2083 := hS2060.tr g2079 (by decide +kernel) (by decide +kernel)
    have c2084 : I2076 a1 4 = v45 := (g2079.cell ta1 (by decide +kernel)).trans c2061
    have b2085 : 1 ≤ v2080.toInt ∧ v2080.toInt ≤ 8 := by omega
    clear p2081
    have hO2086 : FrO 14 a1 T I0 I2076 := hO2063.st g2079 (by decide +kernel)
    have ov2087 := w2082.over (by rw [c2066]; omega)
    obtain ⟨v2088, c2089⟩ : ∃ v, I2076 a0 9 = v := ⟨_, rfl⟩
    have b2090 := iv15_9 hS2083.1 ta0 c2089
    obtain ⟨v2091, c2092⟩ : ∃ v, I2076 a0 13 = v := ⟨_, rfl⟩
    obtain ⟨v2093, c2094⟩ : ∃ v, I2076 a0 14 = v := ⟨_, rfl⟩
    (try rw [c2089] at ov2087)
    (try rw [c2092] at ov2087)
    (try rw [c2094] at ov2087)
    (try rw [c2066] at ov2087)
    (try rw [c2069] at ov2087)
    (try rw [c2071] at ov2087)
    refine tr_istore dX12_readTurner_133 (by decide) (by decide) ?_
    refine tr_aload_n dX12_readTurner_135 hl0 ?_
    refine tr_ldcwS dX12_readTurner_136 ld12_327 ?_
    refine q_iconst dX12_readTurner_139 (by decide) ?_
    intro v2095 h2096
    refine q_bipush dX12_readTurner_140 (by decide +kernel) ?_
    intro v2097 h2098
    refine q_callVi hE (M' := mX12_readPart) (as := [_, _, _]) dX12_readTurner_142 lk12_249 inX12_readPart seX12_readPart myX12_readPart (by decide) ⟨by decide, by decide⟩ rfl (kR15 hS2083.1 ta0) (Nat.le_of_ble_eq_true rfl) rfl rfl (by decide) (by decide) (k_X12_readPart hS2083.1 ta0 (by decide)) ?_
    rintro v2103 cn' K' N' I2099 R2100 L2101 ⟨rfl, rfl, rfl, rfl, g2102, p2104, w2105, -⟩
    have hS2106 := hS2083.tr g2102 (by decide +kernel) (by decide +kernel)
    have c2107 : I2099 a1 4 = v45 := (g2102.cell ta1 (by decide +kernel)).trans c2084
    have b2108 : 1 ≤ v2103.toInt ∧ v2103.toInt ≤ 20 := by omega
    clear p2104
    have hO2109 : FrO 14 a1 T I0 I2099 := hO2086.st g2102 (by decide +kernel)
    have ov2110 := w2105.over (by rw [c2089]; omega)
    obtain ⟨v2111, c2112⟩ : ∃ v, I2099 a0 9 = v := ⟨_, rfl⟩
    have b2113 := iv15_9 hS2106.1 ta0 c2112
    obtain ⟨v2114, c2115⟩ : ∃ v, I2099 a0 13 = v := ⟨_, rfl⟩
    obtain ⟨v2116, c2117⟩ : ∃ v, I2099 a0 14 = v := ⟨_, rfl⟩
    (try rw [c2112] at ov2110)
    (try rw [c2115] at ov2110)
    (try rw [c2117] at ov2110)
    (try rw [c2089] at ov2110)
    (try rw [c2092] at ov2110)
    (try rw [c2094] at ov2110)
    refine tr_istore dX12_readTurner_145 (by decide) (by decide) ?_
    refine tr_aload_n dX12_readTurner_147 hl0 ?_
    refine tr_ldcS dX12_readTurner_148 ld12_253 ?_
    refine q_callVv hE (M' := mX12_needs) (as := [_]) dX12_readTurner_150 lk12_157 inX12_needs seX12_needs myX12_needs (by decide) ⟨by decide, by decide⟩ rfl (kR15 hS2106.1 ta0) (Nat.le_of_ble_eq_true rfl) rfl rfl (by decide) (by decide) (k_X12_needs hS2106.1 ta0 (by decide)) ?_
    rintro cn' K' N' I2118 R2119 L2120 ⟨rfl, rfl, rfl, rfl, g2121, w2123, -⟩
    have hS2124 := hS2106.tr g2121 (by decide +kernel) (by decide +kernel)
    have c2125 : I2118 a1 4 = v45 := (g2121.cell ta1 (by decide +kernel)).trans c2107
    have hO2126 : FrO 14 a1 T I0 I2118 := hO2109.st g2121 (by decide +kernel)
    have ov2127 := w2123.over (by rw [c2112]; omega)
    obtain ⟨v2128, c2129⟩ : ∃ v, I2118 a0 9 = v := ⟨_, rfl⟩
    have b2130 := iv15_9 hS2124.1 ta0 c2129
    obtain ⟨v2131, c2132⟩ : ∃ v, I2118 a0 13 = v := ⟨_, rfl⟩
    obtain ⟨v2133, c2134⟩ : ∃ v, I2118 a0 14 = v := ⟨_, rfl⟩
    (try rw [c2129] at ov2127)
    (try rw [c2132] at ov2127)
    (try rw [c2134] at ov2127)
    (try rw [c2112] at ov2127)
    (try rw [c2115] at ov2127)
    (try rw [c2117] at ov2127)
    refine q_iconst dX12_readTurner_153 (by decide) ?_
    intro v2135 h2136
    refine tr_istore dX12_readTurner_154 (by decide) (by decide) ?_
    refine q_iconst dX12_readTurner_156 (by decide) ?_
    intro v2137 h2138
    refine tr_istore dX12_readTurner_157 (by decide) (by decide) ?_
    refine tr_iload dX12_readTurner_159 rfl ?_
    refine q_if_eq 227 dX12_readTurner_161 (by decide) (fun h2139 => ?_) (fun h2139 => ?_)
    · skip
      exfalso; omega
    · skip
      refine tr_aload_n dX12_readTurner_164 hl0 ?_
      refine q_getI dX12_readTurner_165 fl12_99 (kR15 hS2124.1 ta0) c2129 ?_
      refine q_iconst dX12_readTurner_168 (by decide) ?_
      intro v2140 h2141
      refine q_icmp_eq 227 dX12_readTurner_169 (by decide) (fun h2142 => ?_) (fun h2142 => ?_)
      · skip
        refine tr_aload_n dX12_readTurner_227 hl0 ?_
        refine q_getI dX12_readTurner_228 fl12_99 (kR15 hS2124.1 ta0) c2129 ?_
        refine q_iconst dX12_readTurner_231 (by decide) ?_
        intro v2143 h2144
        refine q_icmp_ne 236 dX12_readTurner_232 (by decide) (fun h2145 => ?_) (fun h2145 => ?_)
        · skip
          exfalso; omega
        · skip
          have eF := hF.eq
          have eP := hP.eq
          obtain ⟨v2146, c2147⟩ : ∃ v, I2118 a0 10 = v := ⟨_, rfl⟩
          have b2148 := iv15_10 hS2124.1 ta0 c2147
          obtain ⟨v2149, c2150⟩ : ∃ v, I2118 a0 11 = v := ⟨_, rfl⟩
          obtain ⟨y2151, c2152⟩ : ∃ v, L2120 a0 15 = v := ⟨_, rfl⟩
          obtain ⟨v2153, c2154⟩ : ∃ v, I2118 a0 12 = v := ⟨_, rfl⟩
          obtain ⟨v2155, c2156⟩ : ∃ v, I2118 a0 8 = v := ⟨_, rfl⟩
          have b2157 := iv15_8 hS2124.1 ta0 c2156
          exact tr_vret hZ dX12_readTurner_235 rfl (by decide) (by decide) (hq _ _ _ ⟨hS2124, (fun b hb => (Option.some.inj (d2.symm.trans hb)) ▸ ((((((FrM.rf (R := R0) (b := a1) (T := T)).st g95 (by decide +kernel)).st g2056 (by decide +kernel)).st g2079 (by decide +kernel)).st g2102 (by decide +kernel)).st g2121 (by decide +kernel))), (fun dr hd => (Option.some.inj (d2.symm.trans hd)) ▸ hO2126), (Or.inr (⟨(by (try rw [w76]); first | done | with_reducible assumption | omega), (by (try rw [w76]); (try rw [c2129]); first | done | with_reducible assumption | omega), (by (try rw [w76]); (try rw [c2132]); first | done | with_reducible assumption | omega), (by (try rw [w76]); (try rw [c2134]); first | done | with_reducible assumption | omega), trivial⟩)), trivial⟩)
      · skip
        exfalso; omega
  · skip
    obtain ⟨v2158, c2159⟩ : ∃ v, I92 a0 9 = v := ⟨_, rfl⟩
    have b2160 := iv15_9 hS100.1 ta0 c2159
    rw [c2159] at p135
    obtain ⟨v2161, c2162⟩ : ∃ v, I92 a0 13 = v := ⟨_, rfl⟩
    rw [c2162] at p136
    obtain ⟨v2163, c2164⟩ : ∃ v, I92 a0 14 = v := ⟨_, rfl⟩
    rw [c2164] at p137
    replace hF := hF.neg (by omega)
    replace hP := hP.neg (by omega)
    replace hF := hF.neg (by omega)
    replace hP := hP.neg (by omega)
    replace hF := hF.pos (by omega)
    replace hP := hP.pos (by omega)
    refine tr_istore dX12_readTurner_101 (by decide) (by decide) ?_
    refine tr_aload_n dX12_readTurner_103 hl0 ?_
    refine tr_ldcwS dX12_readTurner_104 ld12_272 ?_
    refine tr_iload dX12_readTurner_107 rfl ?_
    refine q_iconst dX12_readTurner_109 (by decide) ?_
    intro v2165 h2166
    refine q_iaddE dX12_readTurner_110 (by intros; omega) ?_
    intro v2167 h2168
    refine tr_aload_n dX12_readTurner_111 hl0 ?_
    refine tr_getR dX12_readTurner_112 fl12_188 (kR15 hS100.1 ta0) d2 ?_
    refine q_getI dX12_readTurner_115 fl12_192 (kR14 hS100.1 ta1) ((hS100.cell ta1 (by decide +kernel)).trans c30) ?_
    refine q_callVi hE (M' := mX12_readPart) (as := [_, _, _]) dX12_readTurner_118 lk12_249 inX12_readPart seX12_readPart myX12_readPart (by decide) ⟨by decide, by decide⟩ rfl (kR15 hS100.1 ta0) (Nat.le_of_ble_eq_true rfl) rfl rfl (by decide) (by decide) (k_X12_readPart hS100.1 ta0 (by decide)) ?_
    rintro v2173 cn' K' N' I2169 R2170 L2171 ⟨rfl, rfl, rfl, rfl, g2172, p2174, w2175, -⟩
    have hS2176 := hS100.tr g2172 (by decide +kernel) (by decide +kernel)
    have c2177 : I2169 a1 4 = v45 := (g2172.cell ta1 (by decide +kernel)).trans c101
    have b2178 : 1 ≤ v2173.toInt ∧ v2173.toInt ≤ 240 := by omega
    clear p2174
    have hO2179 : FrO 14 a1 T I0 I2169 := hO102.st g2172 (by decide +kernel)
    have ov2180 := w2175.over (by rw [c2159]; omega)
    obtain ⟨v2181, c2182⟩ : ∃ v, I2169 a0 9 = v := ⟨_, rfl⟩
    have b2183 := iv15_9 hS2176.1 ta0 c2182
    obtain ⟨v2184, c2185⟩ : ∃ v, I2169 a0 13 = v := ⟨_, rfl⟩
    obtain ⟨v2186, c2187⟩ : ∃ v, I2169 a0 14 = v := ⟨_, rfl⟩
    (try rw [c2182] at ov2180)
    (try rw [c2185] at ov2180)
    (try rw [c2187] at ov2180)
    (try rw [c2159] at ov2180)
    (try rw [c2162] at ov2180)
    (try rw [c2164] at ov2180)
    refine tr_istore dX12_readTurner_121 (by decide) (by decide) ?_
    refine tr_aload_n dX12_readTurner_123 hl0 ?_
    refine tr_ldcwS dX12_readTurner_124 ld12_325 ?_
    refine q_iconst dX12_readTurner_127 (by decide) ?_
    intro v2188 h2189
    refine q_bipush dX12_readTurner_128 (by decide +kernel) ?_
    intro v2190 h2191
    refine q_callVi hE (M' := mX12_readPart) (as := [_, _, _]) dX12_readTurner_130 lk12_249 inX12_readPart seX12_readPart myX12_readPart (by decide) ⟨by decide, by decide⟩ rfl (kR15 hS2176.1 ta0) (Nat.le_of_ble_eq_true rfl) rfl rfl (by decide) (by decide) (k_X12_readPart hS2176.1 ta0 (by decide)) ?_
    rintro v2196 cn' K' N' I2192 R2193 L2194 ⟨rfl, rfl, rfl, rfl, g2195, p2197, w2198, -⟩
    have hS2199 := hS2176.tr g2195 (by decide +kernel) (by decide +kernel)
    have c2200 : I2192 a1 4 = v45 := (g2195.cell ta1 (by decide +kernel)).trans c2177
    have b2201 : 1 ≤ v2196.toInt ∧ v2196.toInt ≤ 8 := by omega
    clear p2197
    have hO2202 : FrO 14 a1 T I0 I2192 := hO2179.st g2195 (by decide +kernel)
    have ov2203 := w2198.over (by rw [c2182]; omega)
    obtain ⟨v2204, c2205⟩ : ∃ v, I2192 a0 9 = v := ⟨_, rfl⟩
    have b2206 := iv15_9 hS2199.1 ta0 c2205
    obtain ⟨v2207, c2208⟩ : ∃ v, I2192 a0 13 = v := ⟨_, rfl⟩
    obtain ⟨v2209, c2210⟩ : ∃ v, I2192 a0 14 = v := ⟨_, rfl⟩
    (try rw [c2205] at ov2203)
    (try rw [c2208] at ov2203)
    (try rw [c2210] at ov2203)
    (try rw [c2182] at ov2203)
    (try rw [c2185] at ov2203)
    (try rw [c2187] at ov2203)
    refine tr_istore dX12_readTurner_133 (by decide) (by decide) ?_
    refine tr_aload_n dX12_readTurner_135 hl0 ?_
    refine tr_ldcwS dX12_readTurner_136 ld12_327 ?_
    refine q_iconst dX12_readTurner_139 (by decide) ?_
    intro v2211 h2212
    refine q_bipush dX12_readTurner_140 (by decide +kernel) ?_
    intro v2213 h2214
    refine q_callVi hE (M' := mX12_readPart) (as := [_, _, _]) dX12_readTurner_142 lk12_249 inX12_readPart seX12_readPart myX12_readPart (by decide) ⟨by decide, by decide⟩ rfl (kR15 hS2199.1 ta0) (Nat.le_of_ble_eq_true rfl) rfl rfl (by decide) (by decide) (k_X12_readPart hS2199.1 ta0 (by decide)) ?_
    rintro v2219 cn' K' N' I2215 R2216 L2217 ⟨rfl, rfl, rfl, rfl, g2218, p2220, w2221, -⟩
    have hS2222 := hS2199.tr g2218 (by decide +kernel) (by decide +kernel)
    have c2223 : I2215 a1 4 = v45 := (g2218.cell ta1 (by decide +kernel)).trans c2200
    have b2224 : 1 ≤ v2219.toInt ∧ v2219.toInt ≤ 20 := by omega
    clear p2220
    have hO2225 : FrO 14 a1 T I0 I2215 := hO2202.st g2218 (by decide +kernel)
    have ov2226 := w2221.over (by rw [c2205]; omega)
    obtain ⟨v2227, c2228⟩ : ∃ v, I2215 a0 9 = v := ⟨_, rfl⟩
    have b2229 := iv15_9 hS2222.1 ta0 c2228
    obtain ⟨v2230, c2231⟩ : ∃ v, I2215 a0 13 = v := ⟨_, rfl⟩
    obtain ⟨v2232, c2233⟩ : ∃ v, I2215 a0 14 = v := ⟨_, rfl⟩
    (try rw [c2228] at ov2226)
    (try rw [c2231] at ov2226)
    (try rw [c2233] at ov2226)
    (try rw [c2205] at ov2226)
    (try rw [c2208] at ov2226)
    (try rw [c2210] at ov2226)
    refine tr_istore dX12_readTurner_145 (by decide) (by decide) ?_
    refine tr_aload_n dX12_readTurner_147 hl0 ?_
    refine tr_ldcS dX12_readTurner_148 ld12_253 ?_
    refine q_callVv hE (M' := mX12_needs) (as := [_]) dX12_readTurner_150 lk12_157 inX12_needs seX12_needs myX12_needs (by decide) ⟨by decide, by decide⟩ rfl (kR15 hS2222.1 ta0) (Nat.le_of_ble_eq_true rfl) rfl rfl (by decide) (by decide) (k_X12_needs hS2222.1 ta0 (by decide)) ?_
    rintro cn' K' N' I2234 R2235 L2236 ⟨rfl, rfl, rfl, rfl, g2237, w2239, -⟩
    have hS2240 := hS2222.tr g2237 (by decide +kernel) (by decide +kernel)
    have c2241 : I2234 a1 4 = v45 := (g2237.cell ta1 (by decide +kernel)).trans c2223
    have hO2242 : FrO 14 a1 T I0 I2234 := hO2225.st g2237 (by decide +kernel)
    have ov2243 := w2239.over (by rw [c2228]; omega)
    obtain ⟨v2244, c2245⟩ : ∃ v, I2234 a0 9 = v := ⟨_, rfl⟩
    have b2246 := iv15_9 hS2240.1 ta0 c2245
    obtain ⟨v2247, c2248⟩ : ∃ v, I2234 a0 13 = v := ⟨_, rfl⟩
    obtain ⟨v2249, c2250⟩ : ∃ v, I2234 a0 14 = v := ⟨_, rfl⟩
    (try rw [c2245] at ov2243)
    (try rw [c2248] at ov2243)
    (try rw [c2250] at ov2243)
    (try rw [c2228] at ov2243)
    (try rw [c2231] at ov2243)
    (try rw [c2233] at ov2243)
    refine q_iconst dX12_readTurner_153 (by decide) ?_
    intro v2251 h2252
    refine tr_istore dX12_readTurner_154 (by decide) (by decide) ?_
    refine q_iconst dX12_readTurner_156 (by decide) ?_
    intro v2253 h2254
    refine tr_istore dX12_readTurner_157 (by decide) (by decide) ?_
    refine tr_iload dX12_readTurner_159 rfl ?_
    refine q_if_eq 227 dX12_readTurner_161 (by decide) (fun h2255 => ?_) (fun h2255 => ?_)
    · skip
      exfalso; omega
    · skip
      refine tr_aload_n dX12_readTurner_164 hl0 ?_
      refine q_getI dX12_readTurner_165 fl12_99 (kR15 hS2240.1 ta0) c2245 ?_
      refine q_iconst dX12_readTurner_168 (by decide) ?_
      intro v2256 h2257
      refine q_icmp_eq 227 dX12_readTurner_169 (by decide) (fun h2258 => ?_) (fun h2258 => ?_)
      · skip
        refine tr_aload_n dX12_readTurner_227 hl0 ?_
        refine q_getI dX12_readTurner_228 fl12_99 (kR15 hS2240.1 ta0) c2245 ?_
        refine q_iconst dX12_readTurner_231 (by decide) ?_
        intro v2259 h2260
        refine q_icmp_ne 236 dX12_readTurner_232 (by decide) (fun h2261 => ?_) (fun h2261 => ?_)
        · skip
          exfalso; omega
        · skip
          have eF := hF.eq
          have eP := hP.eq
          obtain ⟨v2262, c2263⟩ : ∃ v, I2234 a0 10 = v := ⟨_, rfl⟩
          have b2264 := iv15_10 hS2240.1 ta0 c2263
          obtain ⟨v2265, c2266⟩ : ∃ v, I2234 a0 11 = v := ⟨_, rfl⟩
          obtain ⟨y2267, c2268⟩ : ∃ v, L2236 a0 15 = v := ⟨_, rfl⟩
          obtain ⟨v2269, c2270⟩ : ∃ v, I2234 a0 12 = v := ⟨_, rfl⟩
          obtain ⟨v2271, c2272⟩ : ∃ v, I2234 a0 8 = v := ⟨_, rfl⟩
          have b2273 := iv15_8 hS2240.1 ta0 c2272
          exact tr_vret hZ dX12_readTurner_235 rfl (by decide) (by decide) (hq _ _ _ ⟨hS2240, (fun b hb => (Option.some.inj (d2.symm.trans hb)) ▸ ((((((FrM.rf (R := R0) (b := a1) (T := T)).st g95 (by decide +kernel)).st g2172 (by decide +kernel)).st g2195 (by decide +kernel)).st g2218 (by decide +kernel)).st g2237 (by decide +kernel))), (fun dr hd => (Option.some.inj (d2.symm.trans hd)) ▸ hO2242), (Or.inr (⟨(by (try rw [w76]); first | done | with_reducible assumption | omega), (by (try rw [w76]); (try rw [c2245]); first | done | with_reducible assumption | omega), (by (try rw [w76]); (try rw [c2248]); first | done | with_reducible assumption | omega), (by (try rw [w76]); (try rw [c2250]); first | done | with_reducible assumption | omega), trivial⟩)), trivial⟩)
      · skip
        exfalso; omega
def wik_X12_readTurner : List Nat := [900, 903, 968, 969, 970, 971, 972, 973, 974, 4095, 4159, 4223, 4287, 4351, 4415, 4799, 4863]
def wrk_X12_readTurner : List Nat := []
def wlk_X12_readTurner : List Nat := [975, 4735]
set_option maxHeartbeats 4000000 in
theorem fk_X12_readTurner {l : Launch} {T : Nat → Nat} {cn : Nat} {K N : Nat → Nat} {I0 : cz_I} {R0 : cz_R} {L0 : cz_L} (hW0 : Wf T cn K N I0 R0 0) (gB : cz_B) (gs : Int) (gQ : Nat → Int) {a0 : Nat} (ta0 : T a0 = 15) (hT : ∀ t, R0 a0 5 = some t → Tx I0 t gB) (hN : ∀ b, R0 a0 4 = some b → NmM I0 R0 L0 b gQ) (pre0 : (I0 a0 9).toInt = (tkM gB gs)) (pre1 : (I0 a0 9).toInt ≤ 4) (pre2 : (I0 a0 10).toInt = (tkS gB gs)) (pre3 : (I0 a0 11).toInt = (tkG gB gs)) (pre4 : (AtW ((tkK gB gs)) ((L0 a0 15).toInt) ((tkW gB gs)))) (pre5 : (AtV ((tkK gB gs)) ((I0 a0 12).toInt) ((tkV gB gs)))) (pre6 : (AtN ((tkK gB gs)) ((I0 a0 8).toInt) ((tkN gB gs)))) (pre7 : (I0 a0 7).toInt = (gB.2)) (pre8 : ∀ b1, R0 a0 4 = some b1 → (I0 b1 0).toInt = (gQ 0)) (pre9 : ∀ b1, R0 a0 4 = some b1 → (I0 b1 1).toInt = (gQ 1)) (pre10 : ∀ b1, R0 a0 4 = some b1 → (I0 b1 2).toInt = (gQ 2)) (pre11 : ∀ b1, R0 a0 4 = some b1 → (I0 b1 3).toInt = (gQ 3)) (pre12 : ∀ b1, R0 a0 4 = some b1 → (I0 b1 4).toInt = (gQ 4)) (pre13 : ∀ b1, R0 a0 4 = some b1 → (I0 b1 5).toInt = (gQ 5)) (pre14 : ∀ b1, R0 a0 4 = some b1 → (I0 b1 6).toInt = (gQ 6)) (pre15 : ∀ b1, R0 a0 4 = some b1 → (I0 b1 9).toInt = (gQ 8)) (pre16 : (Q7M ((gQ 0)) ((gQ 7)))) (pre17 : (tkK gB gs) = 1) (pre18 : (srt gB gs) = 7) (nn4 : ∃ b, R0 a0 4 = some b) : ConE l mX12_readTurner [.ref a0] cn K N I0 R0 L0 (ca_v (fun cn' K' N' I' R' L' => cn = cn' ∧ K = K' ∧ N = N' ∧ R0 = R' ∧ St T cn K N 0 wik_X12_readTurner wrk_X12_readTurner I0 R0 I' R0 ∧ (∀ b, R0 a0 4 = some b → FrM R0 b T I0 I') ∧ (∀ dr, R0 a0 4 = some dr → FrO 14 dr T I0 I') ∧ ((((lnF gB gQ gs) = 0) ∧ (∀ b1, R0 a0 4 = some b1 → (I' b1 0).toInt = (lnQ gB gQ gs 0)) ∧ (∀ b1, R0 a0 4 = some b1 → (I' b1 1).toInt = (lnQ gB gQ gs 1)) ∧ (∀ b1, R0 a0 4 = some b1 → (I' b1 2).toInt = (lnQ gB gQ gs 2)) ∧ (∀ b1, R0 a0 4 = some b1 → (I' b1 3).toInt = (lnQ gB gQ gs 3)) ∧ (∀ b1, R0 a0 4 = some b1 → (I' b1 4).toInt = (lnQ gB gQ gs 4)) ∧ (∀ b1, R0 a0 4 = some b1 → (I' b1 5).toInt = (lnQ gB gQ gs 5)) ∧ (∀ b1, R0 a0 4 = some b1 → (I' b1 6).toInt = (lnQ gB gQ gs 6)) ∧ (∀ b1, R0 a0 4 = some b1 → (I' b1 9).toInt = (lnQ gB gQ gs 8)) ∧ ((I' a0 13).toInt = (I0 a0 13).toInt) ∧ ((I' a0 9).toInt = (tkM gB (lnS gB gQ gs))) ∧ ((I' a0 9).toInt ≤ 4) ∧ ((I' a0 10).toInt = (tkS gB (lnS gB gQ gs))) ∧ ((I' a0 11).toInt = (tkG gB (lnS gB gQ gs))) ∧ ((AtW ((tkK gB (lnS gB gQ gs))) ((L' a0 15).toInt) ((tkW gB (lnS gB gQ gs))))) ∧ ((AtV ((tkK gB (lnS gB gQ gs))) ((I' a0 12).toInt) ((tkV gB (lnS gB gQ gs))))) ∧ ((AtN ((tkK gB (lnS gB gQ gs))) ((I' a0 8).toInt) ((tkN gB (lnS gB gQ gs))))) ∧ LgS T wlk_X12_readTurner L0 L' ∧ (∀ b, R0 a0 4 = some b → NmM I' R0 L' b (lnQ gB gQ gs)) ∧ (∀ E b, R0 a0 4 = some b → AlM I0 R0 b gQ E → AlM I' R0 b (lnQ gB gQ gs) (lnE gB gQ gs E)) ∧ True) ∨ (((lnF gB gQ gs) ≠ 0) ∧ ((I' a0 9).toInt = 5) ∧ ((I' a0 13).toInt = (lnF gB gQ gs)) ∧ ((I' a0 14).toInt = (lnP gB gQ gs)) ∧ True)) ∧ True)) := by
  refine ConE.of (by decide +kernel) rfl (Nat.le_of_ble_eq_true rfl) rfl (fun X hX hZ hE => ?_)
  subst hX
  have hS0 : St T cn K N 0 wik_X12_readTurner wrk_X12_readTurner I0 R0 I0 R0 := St.rf0 hW0
  have hL0 : LgS T wlk_X12_readTurner L0 L0 := LgS.rf0
  obtain ⟨a1, d2⟩ := nn4
  have ta1 : T a1 = 14 := hW0.rsN ta0 rfl d2
  obtain ⟨v3, c4⟩ : ∃ v, I0 a0 9 = v := ⟨_, rfl⟩
  have b5 := iv15_9 hS0.1 ta0 c4
  have p6 := pre0
  rw [c4] at p6
  have p7 := pre1
  rw [c4] at p7
  obtain ⟨v8, c9⟩ : ∃ v, I0 a0 10 = v := ⟨_, rfl⟩
  have b10 := iv15_10 hS0.1 ta0 c9
  have p11 := pre2
  rw [c9] at p11
  obtain ⟨v12, c13⟩ : ∃ v, I0 a0 11 = v := ⟨_, rfl⟩
  have p14 := pre3
  rw [c13] at p14
  obtain ⟨y15, c16⟩ : ∃ v, L0 a0 15 = v := ⟨_, rfl⟩
  have p17 := pre4
  rw [c16] at p17
  obtain ⟨v18, c19⟩ : ∃ v, I0 a0 12 = v := ⟨_, rfl⟩
  have p20 := pre5
  rw [c19] at p20
  obtain ⟨v21, c22⟩ : ∃ v, I0 a0 8 = v := ⟨_, rfl⟩
  have b23 := iv15_8 hS0.1 ta0 c22
  have p24 := pre6
  rw [c22] at p24
  obtain ⟨v25, c26⟩ : ∃ v, I0 a0 7 = v := ⟨_, rfl⟩
  have b27 := iv15_7 hW0 ta0 c26
  have p28 := pre7
  rw [c26] at p28
  obtain ⟨v29, c30⟩ : ∃ v, I0 a1 0 = v := ⟨_, rfl⟩
  have b31 := iv14_0 hW0 ta1 c30
  have p32 := pre8 _ d2
  rw [c30] at p32
  obtain ⟨v33, c34⟩ : ∃ v, I0 a1 1 = v := ⟨_, rfl⟩
  have b35 := iv14_1 hW0 ta1 c34
  have p36 := pre9 _ d2
  rw [c34] at p36
  obtain ⟨v37, c38⟩ : ∃ v, I0 a1 2 = v := ⟨_, rfl⟩
  have b39 := iv14_2 hW0 ta1 c38
  have p40 := pre10 _ d2
  rw [c38] at p40
  obtain ⟨v41, c42⟩ : ∃ v, I0 a1 3 = v := ⟨_, rfl⟩
  have b43 := iv14_3 hW0 ta1 c42
  have p44 := pre11 _ d2
  rw [c42] at p44
  obtain ⟨v45, c46⟩ : ∃ v, I0 a1 4 = v := ⟨_, rfl⟩
  have b47 := iv14_4 hS0.1 ta1 c46
  have p48 := pre12 _ d2
  rw [c46] at p48
  obtain ⟨v49, c50⟩ : ∃ v, I0 a1 5 = v := ⟨_, rfl⟩
  have b51 := iv14_5 hW0 ta1 c50
  have p52 := pre13 _ d2
  rw [c50] at p52
  obtain ⟨v53, c54⟩ : ∃ v, I0 a1 6 = v := ⟨_, rfl⟩
  have b55 := iv14_6 hW0 ta1 c54
  have p56 := pre14 _ d2
  rw [c54] at p56
  obtain ⟨v57, c58⟩ : ∃ v, I0 a1 9 = v := ⟨_, rfl⟩
  have b59 := iv14_9 hW0 ta1 c58
  have p60 := pre15 _ d2
  rw [c58] at p60
  have p61 := pre16
  have p62 := pre17
  have p63 := pre18
  obtain ⟨v64, c65⟩ : ∃ v, I0 a0 13 = v := ⟨_, rfl⟩
  have hM0 := hN _ d2
  have hO0 : FrO 14 a1 T I0 I0 := FrO.rf
  obtain ⟨a66, d67, ta66⟩ := rf14_20 hW0 ta1
  obtain ⟨a68, d69, ta68⟩ := rf14_21 hW0 ta1
  obtain ⟨a70, d71, ta70⟩ := rf14_22 hW0 ta1
  obtain ⟨a72, d73, ta72⟩ := rf14_23 hW0 ta1
  obtain ⟨a74, d75, ta74⟩ := rf14_24 hW0 ta1
  obtain ⟨a76, d77, ta76⟩ := rf14_25 hW0 ta1
  have hF := lnF_ch gB gQ gs
  have hP := lnP_ch gB gQ gs
  replace hF := hF.neg (by omega)
  replace hP := hP.neg (by omega)
  replace hF := hF.neg (by omega)
  replace hP := hP.neg (by omega)
  refine tr_aload_n dX12_readTurner_0 rfl ?_
  refine tr_aload_n dX12_readTurner_1 rfl ?_
  refine tr_getR dX12_readTurner_2 fl12_188 (kR15 hS0.1 ta0) d2 ?_
  refine q_getI dX12_readTurner_5 fl12_315 (kR14 hS0.1 ta1) c46 ?_
  refine q_iconst dX12_readTurner_8 (by decide) ?_
  intro v78 h79
  refine q_callVv hE (M' := mX12_begins) (as := [_, _]) dX12_readTurner_9 lk12_268 inX12_begins seX12_begins myX12_begins (by decide) ⟨by decide, by decide⟩ rfl (kR15 hS0.1 ta0) (Nat.le_of_ble_eq_true rfl) rfl rfl (by decide) (by decide) (fk_X12_begins hS0.1 (gB) (gs) (gQ) ta0 (TxA.kp hT hS0 ta0 rfl rfl rfl (by decide +kernel) (by decide +kernel)) (by (try rw [c4]); first | done | with_reducible assumption | omega) (by (try rw [c4]); first | done | with_reducible assumption | omega) (by (try rw [c9]); first | done | with_reducible assumption | omega) (by (try rw [c13]); first | done | with_reducible assumption | omega) (by (try rw [c16]); first | done | assumption) (by (try rw [c19]); first | done | assumption) (by (try rw [c22]); first | done | assumption) (by (try rw [c26]); first | done | with_reducible assumption | omega) (fun q0 z0 => by obtain rfl := Option.some.inj ((d2).symm.trans z0); (try rw [c30]); first | done | with_reducible assumption | omega) (by first | done | with_reducible assumption | omega) ⟨_, d2⟩) ?_
  rintro cn' K' N' I80 R81 L82 ⟨rfl, rfl, rfl, rfl, g83, dj86, -⟩
  have hM87 : NmM I80 R0 L0 a1 gQ := NmM.kpS hM0 g83 hS0.1 ta1 (by decide +kernel) (by decide +kernel)
  have hS88 := hS0.tr g83 (by decide +kernel) (by decide +kernel)
  have c89 : I80 a1 4 = v45 := (g83.cell ta1 (by decide +kernel)).trans c46
  have hO90 : FrO 14 a1 T I0 I80 := hO0.st g83 (by decide +kernel)
  rcases dj86 with ⟨p91, p92, p93, p94, p95, p96, p97, p98, p99, p100, gl101, -⟩ | ⟨p102, p103, p104, p105, -⟩ | ⟨p106, p107, p108, p109, p110, -⟩
  · skip
    have hL111 := hL0.tr gl101 (by decide +kernel)
    have hM112 : NmM I80 R0 L82 a1 gQ := NmM.kpL hM87 gl101 hS88.1 ta1 (by decide +kernel)
    obtain ⟨v113, c114⟩ : ∃ v, I80 a0 13 = v := ⟨_, rfl⟩
    rw [c114] at p93
    rw [c65] at p93
    obtain ⟨v115, c116⟩ : ∃ v, I80 a0 9 = v := ⟨_, rfl⟩
    have b117 := iv15_9 hS88.1 ta0 c116
    rw [c116] at p94
    rw [c116] at p95
    obtain ⟨v118, c119⟩ : ∃ v, I80 a0 10 = v := ⟨_, rfl⟩
    have b120 := iv15_10 hS88.1 ta0 c119
    rw [c119] at p96
    obtain ⟨v121, c122⟩ : ∃ v, I80 a0 11 = v := ⟨_, rfl⟩
    rw [c122] at p97
    obtain ⟨y123, c124⟩ : ∃ v, L82 a0 15 = v := ⟨_, rfl⟩
    rw [c124] at p98
    obtain ⟨v125, c126⟩ : ∃ v, I80 a0 12 = v := ⟨_, rfl⟩
    rw [c126] at p99
    obtain ⟨v127, c128⟩ : ∃ v, I80 a0 8 = v := ⟨_, rfl⟩
    have b129 := iv15_8 hS88.1 ta0 c128
    rw [c128] at p100
    have p130 := p61
    unfold Q7M at p130
    replace hF := hF.neg (by omega)
    replace hP := hP.neg (by omega)
    replace hF := hF.neg (by omega)
    replace hP := hP.neg (by omega)
    clear p130
    obtain ⟨w131, w132, w133, w134, w135, w136, w137, w138, w139, w140, w141, w142⟩ := lnl_7 (B := gB) (Q := gQ) (s := gs) (by omega)
    replace hF := hF.to w131 (tuF_cx gB gQ (tkN gB gs))
    replace hP := hP.to w132 (tuP_cx gB gQ (tkN gB gs))
    refine tr_aload_n dX12_readTurner_12 rfl ?_
    refine q_callVl hE (M' := mX12_readFresh) (as := []) dX12_readTurner_13 lk12_285 inX12_readFresh seX12_readFresh myX12_readFresh (by decide) ⟨by decide, by decide⟩ rfl (kR15 hS88.1 ta0) (Nat.le_of_ble_eq_true rfl) rfl rfl (by decide) (by decide) (fk_X12_readFresh hS88.1 (gB) ((tkN gB gs)) (gQ) ta0 (TxA.kp hT hS88 ta0 rfl rfl rfl (by decide +kernel) (by decide +kernel)) (fun b hb => (Option.some.inj (d2.symm.trans hb)) ▸ hM112) (by (try rw [c116]); first | done | with_reducible assumption | omega) (by (try rw [c116]); first | done | with_reducible assumption | omega) (by (try rw [c119]); first | done | with_reducible assumption | omega) (by (try rw [c122]); first | done | with_reducible assumption | omega) (by (try rw [c124]); first | done | assumption) (by (try rw [c126]); first | done | assumption) (by (try rw [c128]); first | done | assumption) (by (try rw [((hS88.cell ta0 (by decide +kernel)).trans c26)]); first | done | with_reducible assumption | omega) (fun q0 z0 => by obtain rfl := Option.some.inj ((d2).symm.trans z0); (try rw [((hS88.cell ta1 (by decide +kernel)).trans c42)]); first | done | with_reducible assumption | omega) (fun q0 z0 => by obtain rfl := Option.some.inj ((d2).symm.trans z0); (try rw [c89]); first | done | with_reducible assumption | omega) ⟨_, d2⟩) ?_
    rintro y148 cn' K' N' I143 R144 L145 ⟨rfl, rfl, rfl, rfl, g146, dj149, -⟩
    have hM150 : NmM I143 R0 L82 a1 gQ := NmM.kpS hM112 g146 hS88.1 ta1 (by decide +kernel) (by decide +kernel)
    have hS151 := hS88.tr g146 (by decide +kernel) (by decide +kernel)
    have c152 : I143 a1 4 = v45 := (g146.cell ta1 (by decide +kernel)).trans c89
    have hO153 : FrO 14 a1 T I0 I143 := hO90.st g146 (by decide +kernel)
    rcases dj149 with ⟨p154, p155, p156, p157, p158, p159, p160, p161, p162, p163, p164, p165, p166, gl167, -⟩ | ⟨p168, p169, p170, p171, -⟩ | ⟨p172, p173, p174, p175, p176, -⟩
    · skip
      have hL177 := hL111.tr gl167 (by decide +kernel)
      have hM178 : NmM I143 R0 L145 a1 gQ := NmM.kpL hM150 gl167 hS151.1 ta1 (by decide +kernel)
      obtain ⟨v179, c180⟩ : ∃ v, I143 a0 13 = v := ⟨_, rfl⟩
      rw [c180] at p159
      rw [c114] at p159
      obtain ⟨v181, c182⟩ : ∃ v, I143 a0 9 = v := ⟨_, rfl⟩
      have b183 := iv15_9 hS151.1 ta0 c182
      rw [c182] at p160
      rw [c182] at p161
      obtain ⟨v184, c185⟩ : ∃ v, I143 a0 10 = v := ⟨_, rfl⟩
      have b186 := iv15_10 hS151.1 ta0 c185
      rw [c185] at p162
      obtain ⟨v187, c188⟩ : ∃ v, I143 a0 11 = v := ⟨_, rfl⟩
      rw [c188] at p163
      obtain ⟨y189, c190⟩ : ∃ v, L145 a0 15 = v := ⟨_, rfl⟩
      rw [c190] at p164
      obtain ⟨v191, c192⟩ : ∃ v, I143 a0 12 = v := ⟨_, rfl⟩
      rw [c192] at p165
      obtain ⟨v193, c194⟩ : ∃ v, I143 a0 8 = v := ⟨_, rfl⟩
      have b195 := iv15_8 hS151.1 ta0 c194
      rw [c194] at p166
      replace hF := hF.neg (by omega)
      replace hP := hP.neg (by omega)
      replace hF := hF.neg (by omega)
      replace hP := hP.neg (by omega)
      refine tr_lstore_n dX12_readTurner_16 (by decide) (by decide) (by decide) ?_
      refine tr_aload_n dX12_readTurner_17 rfl ?_
      refine tr_ldcwS dX12_readTurner_18 ld12_318 ?_
      refine q_callVi hE (M' := mX12_eatsWord) (as := [_]) dX12_readTurner_21 lk12_290 inX12_eatsWord seX12_eatsWord myX12_eatsWord (by decide) ⟨by decide, by decide⟩ rfl (kR15 hS151.1 ta0) (Nat.le_of_ble_eq_true rfl) rfl rfl (by decide) (by decide) (fk_X12_eatsWord hS151.1 (gB) ((tkN gB (tkN gB gs))) ta0 (by decide) (TxA.kp hT hS151 ta0 rfl rfl rfl (by decide +kernel) (by decide +kernel)) (by (try rw [c182]); first | done | with_reducible assumption | omega) (by (try rw [c182]); first | done | with_reducible assumption | omega) (by (try rw [c185]); first | done | with_reducible assumption | omega) (by (try rw [c188]); first | done | with_reducible assumption | omega) (by (try rw [c190]); first | done | assumption) (by (try rw [c192]); first | done | assumption) (by (try rw [c194]); first | done | assumption) (by (try rw [((hS151.cell ta0 (by decide +kernel)).trans c26)]); first | done | with_reducible assumption | omega)) ?_
      rintro v201 cn' K' N' I196 R197 L198 ⟨rfl, rfl, rfl, rfl, g199, gl200, h202, dj203, -⟩
      (try rw [pk_21] at dj203)
      have hM204 : NmM I196 R0 L145 a1 gQ := NmM.kpS hM178 g199 hS151.1 ta1 (by decide +kernel) (by decide +kernel)
      have hS205 := hS151.tr g199 (by decide +kernel) (by decide +kernel)
      have c206 : I196 a1 4 = v45 := (g199.cell ta1 (by decide +kernel)).trans c152
      have c207 : I196 a0 13 = v179 := (g199.cell ta0 (by decide +kernel)).trans c180
      have hO208 : FrO 14 a1 T I0 I196 := hO153.st g199 (by decide +kernel)
      have hL209 := hL177.tr gl200 (by decide +kernel)
      have hM210 : NmM I196 R0 L198 a1 gQ := NmM.kpL hM204 gl200 hS205.1 ta1 (by decide +kernel)
      rcases dj203 with ⟨p211, p212, p213, p214, p215, p216, p217, p218, p219, p220, p221, -⟩ | ⟨p222, p223, p224, p225, p226, p227, p228, p229, p230, p231, -⟩
      · skip
        rw [c207] at p214
        rw [c180] at p214
        obtain ⟨v232, c233⟩ : ∃ v, I196 a0 9 = v := ⟨_, rfl⟩
        have b234 := iv15_9 hS205.1 ta0 c233
        rw [c233] at p215
        rw [c233] at p216
        obtain ⟨v235, c236⟩ : ∃ v, I196 a0 10 = v := ⟨_, rfl⟩
        have b237 := iv15_10 hS205.1 ta0 c236
        rw [c236] at p217
        obtain ⟨v238, c239⟩ : ∃ v, I196 a0 11 = v := ⟨_, rfl⟩
        rw [c239] at p218
        obtain ⟨y240, c241⟩ : ∃ v, L198 a0 15 = v := ⟨_, rfl⟩
        rw [c241] at p219
        obtain ⟨v242, c243⟩ : ∃ v, I196 a0 12 = v := ⟨_, rfl⟩
        rw [c243] at p220
        obtain ⟨v244, c245⟩ : ∃ v, I196 a0 8 = v := ⟨_, rfl⟩
        have b246 := iv15_8 hS205.1 ta0 c245
        rw [c245] at p221
        refine q_if_eq 31 dX12_readTurner_24 (by decide) (fun h247 => ?_) (fun h247 => ?_)
        · skip
          exfalso; omega
        · skip
          refine q_iconst dX12_readTurner_27 (by decide) ?_
          intro v248 h249
          refine tr_goto 73 dX12_readTurner_28 (by decide) ?_
          refine tr_istore_n dX12_readTurner_73 (by decide) (by decide) ?_
          have kd250 : tkd gB (tkN gB (tkN gB gs)) = 0 := by simp [tkd, (show tkK gB (tkN gB (tkN gB gs)) = 1 by omega), (show tkW gB (tkN gB (tkN gB gs)) = 627891 by omega)]
          have kd250x : tkd gB (tkN gB (tkN gB gs)) = v248.toInt := by omega
          refine tr_iload_n dX12_readTurner_74 rfl ?_
          refine q_iconst dX12_readTurner_75 (by decide) ?_
          intro v251 h252
          refine q_icmp_ne 84 dX12_readTurner_76 (by decide) (fun h253 => ?_) (fun h253 => ?_)
          · skip
            refine sf_tuL hE hZ hS205.1 (gB) (gs) (gQ) ta0 (by omega) (TxA.kp hT hS205 ta0 rfl rfl rfl (by decide +kernel) (by decide +kernel)) (fun b hb => (Option.some.inj (d2.symm.trans hb)) ▸ hM210) (by (try rw [c233]); first | done | with_reducible assumption | omega) (by (try rw [c233]); first | done | with_reducible assumption | omega) (by (try rw [c236]); first | done | with_reducible assumption | omega) (by (try rw [c239]); first | done | with_reducible assumption | omega) (by (try rw [c241]); first | done | assumption) (by (try rw [c243]); first | done | assumption) (by (try rw [c245]); first | done | assumption) (by (try rw [((hS205.cell ta0 (by decide +kernel)).trans c26)]); first | done | with_reducible assumption | omega) (fun q0 z0 => by obtain rfl := Option.some.inj ((d2).symm.trans z0); (try rw [((hS205.cell ta1 (by decide +kernel)).trans c30)]); first | done | with_reducible assumption | omega) (fun q0 z0 => by obtain rfl := Option.some.inj ((d2).symm.trans z0); (try rw [((hS205.cell ta1 (by decide +kernel)).trans c34)]); first | done | with_reducible assumption | omega) (fun q0 z0 => by obtain rfl := Option.some.inj ((d2).symm.trans z0); (try rw [((hS205.cell ta1 (by decide +kernel)).trans c38)]); first | done | with_reducible assumption | omega) (fun q0 z0 => by obtain rfl := Option.some.inj ((d2).symm.trans z0); (try rw [((hS205.cell ta1 (by decide +kernel)).trans c42)]); first | done | with_reducible assumption | omega) (fun q0 z0 => by obtain rfl := Option.some.inj ((d2).symm.trans z0); (try rw [c206]); first | done | with_reducible assumption | omega) (fun q0 z0 => by obtain rfl := Option.some.inj ((d2).symm.trans z0); (try rw [((hS205.cell ta1 (by decide +kernel)).trans c50)]); first | done | with_reducible assumption | omega) (fun q0 z0 => by obtain rfl := Option.some.inj ((d2).symm.trans z0); (try rw [((hS205.cell ta1 (by decide +kernel)).trans c54)]); first | done | with_reducible assumption | omega) (fun q0 z0 => by obtain rfl := Option.some.inj ((d2).symm.trans z0); (try rw [((hS205.cell ta1 (by decide +kernel)).trans c58)]); first | done | with_reducible assumption | omega) (by first | done | assumption) (by first | done | with_reducible assumption | omega) (by first | done | with_reducible assumption | omega) (by first | done | with_reducible assumption | omega) (by first | done | with_reducible assumption | omega) (by first | done | with_reducible assumption | omega) (by first | done | with_reducible assumption | omega) (by first | done | with_reducible assumption | omega) (by first | done | with_reducible assumption | omega) (by first | done | with_reducible assumption | omega) ⟨_, d2⟩ rfl rfl rfl ?_
            rintro I254 R255 L256 ⟨g257, rp258, rp259, dj260, -⟩
            obtain rfl : R0 = R255 := funext fun a => funext fun j => (g257.2.2 a j (wm_no rfl)).symm
            have hS261 := hS205.tr g257 (by decide +kernel) (by decide +kernel)
            have hO262 : FrO 14 a1 T I0 I254 := hO208.tr (rp259 _ d2)
            rcases dj260 with ⟨p263, p264, p265, p266, p267, p268, p269, p270, p271, p272, p273, p274, p275, p276, p277, p278, p279, gl280, rp281, rp282, -⟩ | ⟨p283, p284, p285, p286, -⟩
            · skip
              have hL287 := hL209.tr gl280 (by decide +kernel)
              have p288 := p264 _ d2
              clear p264
              rw [((hS261.cell ta1 (by decide +kernel)).trans c30)] at p288
              have p289 := p265 _ d2
              clear p265
              rw [((hS261.cell ta1 (by decide +kernel)).trans c34)] at p289
              have p290 := p266 _ d2
              clear p266
              rw [((hS261.cell ta1 (by decide +kernel)).trans c38)] at p290
              have p291 := p267 _ d2
              clear p267
              rw [((hS261.cell ta1 (by decide +kernel)).trans c42)] at p291
              obtain ⟨v292, c293⟩ : ∃ v, I254 a1 4 = v := ⟨_, rfl⟩
              have b294 := iv14_4 hS261.1 ta1 c293
              have p295 := p268 _ d2
              clear p268
              rw [c293] at p295
              have p296 := p269 _ d2
              clear p269
              rw [((hS261.cell ta1 (by decide +kernel)).trans c50)] at p296
              have p297 := p270 _ d2
              clear p270
              rw [((hS261.cell ta1 (by decide +kernel)).trans c54)] at p297
              have p298 := p271 _ d2
              clear p271
              rw [((hS261.cell ta1 (by decide +kernel)).trans c58)] at p298
              obtain ⟨v299, c300⟩ : ∃ v, I254 a0 13 = v := ⟨_, rfl⟩
              rw [c300] at p272
              rw [c207] at p272
              obtain ⟨v301, c302⟩ : ∃ v, I254 a0 9 = v := ⟨_, rfl⟩
              have b303 := iv15_9 hS261.1 ta0 c302
              rw [c302] at p273
              rw [c302] at p274
              obtain ⟨v304, c305⟩ : ∃ v, I254 a0 10 = v := ⟨_, rfl⟩
              have b306 := iv15_10 hS261.1 ta0 c305
              rw [c305] at p275
              obtain ⟨v307, c308⟩ : ∃ v, I254 a0 11 = v := ⟨_, rfl⟩
              rw [c308] at p276
              obtain ⟨y309, c310⟩ : ∃ v, L256 a0 15 = v := ⟨_, rfl⟩
              rw [c310] at p277
              obtain ⟨v311, c312⟩ : ∃ v, I254 a0 12 = v := ⟨_, rfl⟩
              rw [c312] at p278
              obtain ⟨v313, c314⟩ : ∃ v, I254 a0 8 = v := ⟨_, rfl⟩
              have b315 := iv15_8 hS261.1 ta0 c314
              rw [c314] at p279
              obtain ⟨v316, c317⟩ : ∃ v, I254 a0 14 = v := ⟨_, rfl⟩
              exact ⟨rfl, rfl, rfl, rfl, rfl, hS261, (fun b hb => (Option.some.inj (d2.symm.trans hb)) ▸ (((((FrM.rf (R := R0) (b := a1) (T := T)).st g83 (by decide +kernel)).st g146 (by decide +kernel)).st g199 (by decide +kernel)).tr (rp258 _ d2))), (fun dr hd => (Option.some.inj (d2.symm.trans hd)) ▸ hO262), (Or.inl ⟨(by first | done | with_reducible assumption | omega), (fun q0 z0 => by obtain rfl := Option.some.inj ((d2).symm.trans z0); (try rw [((hS261.cell ta1 (by decide +kernel)).trans c30)]); first | done | with_reducible assumption | omega), (fun q0 z0 => by obtain rfl := Option.some.inj ((d2).symm.trans z0); (try rw [((hS261.cell ta1 (by decide +kernel)).trans c34)]); first | done | with_reducible assumption | omega), (fun q0 z0 => by obtain rfl := Option.some.inj ((d2).symm.trans z0); (try rw [((hS261.cell ta1 (by decide +kernel)).trans c38)]); first | done | with_reducible assumption | omega), (fun q0 z0 => by obtain rfl := Option.some.inj ((d2).symm.trans z0); (try rw [((hS261.cell ta1 (by decide +kernel)).trans c42)]); first | done | with_reducible assumption | omega), (fun q0 z0 => by obtain rfl := Option.some.inj ((d2).symm.trans z0); (try rw [c293]); first | done | with_reducible assumption | omega), (fun q0 z0 => by obtain rfl := Option.some.inj ((d2).symm.trans z0); (try rw [((hS261.cell ta1 (by decide +kernel)).trans c50)]); first | done | with_reducible assumption | omega), (fun q0 z0 => by obtain rfl := Option.some.inj ((d2).symm.trans z0); (try rw [((hS261.cell ta1 (by decide +kernel)).trans c54)]); first | done | with_reducible assumption | omega), (fun q0 z0 => by obtain rfl := Option.some.inj ((d2).symm.trans z0); (try rw [((hS261.cell ta1 (by decide +kernel)).trans c58)]); first | done | with_reducible assumption | omega), (by (try rw [c300]); (try rw [c65]); first | done | with_reducible assumption | omega), (by (try rw [c302]); first | done | with_reducible assumption | omega), (by (try rw [c302]); first | done | with_reducible assumption | omega), (by (try rw [c305]); first | done | with_reducible assumption | omega), (by (try rw [c308]); first | done | with_reducible assumption | omega), (by (try rw [c310]); first | done | assumption), (by (try rw [c312]); first | done | assumption), (by (try rw [c314]); first | done | assumption), hL287, rp281, (fun E b hb hE => by obtain rfl := Option.some.inj (d2.symm.trans hb); exact rp282 _ _ d2 (AlM.kp hE hW0 ta1 ((g199.cell ta1 (wm_no (by decide +kernel))).trans ((g146.cell ta1 (wm_no (by decide +kernel))).trans (g83.cell ta1 (wm_no (by decide +kernel))))) ((((RoF.rf (ex := rdm) (T := T)).tr (RoF.st g83 (by decide +kernel))).tr (RoF.st g146 (by decide +kernel))).tr (RoF.st g199 (by decide +kernel))))), trivial⟩), trivial⟩
            · skip
              obtain ⟨v318, c319⟩ : ∃ v, I254 a0 9 = v := ⟨_, rfl⟩
              have b320 := iv15_9 hS261.1 ta0 c319
              rw [c319] at p284
              obtain ⟨v321, c322⟩ : ∃ v, I254 a0 13 = v := ⟨_, rfl⟩
              rw [c322] at p285
              obtain ⟨v323, c324⟩ : ∃ v, I254 a0 14 = v := ⟨_, rfl⟩
              rw [c324] at p286
              obtain ⟨v325, c326⟩ : ∃ v, I254 a1 4 = v := ⟨_, rfl⟩
              have b327 := iv14_4 hS261.1 ta1 c326
              obtain ⟨v328, c329⟩ : ∃ v, I254 a0 10 = v := ⟨_, rfl⟩
              have b330 := iv15_10 hS261.1 ta0 c329
              obtain ⟨v331, c332⟩ : ∃ v, I254 a0 11 = v := ⟨_, rfl⟩
              obtain ⟨y333, c334⟩ : ∃ v, L256 a0 15 = v := ⟨_, rfl⟩
              obtain ⟨v335, c336⟩ : ∃ v, I254 a0 12 = v := ⟨_, rfl⟩
              obtain ⟨v337, c338⟩ : ∃ v, I254 a0 8 = v := ⟨_, rfl⟩
              have b339 := iv15_8 hS261.1 ta0 c338
              exact ⟨rfl, rfl, rfl, rfl, rfl, hS261, (fun b hb => (Option.some.inj (d2.symm.trans hb)) ▸ (((((FrM.rf (R := R0) (b := a1) (T := T)).st g83 (by decide +kernel)).st g146 (by decide +kernel)).st g199 (by decide +kernel)).tr (rp258 _ d2))), (fun dr hd => (Option.some.inj (d2.symm.trans hd)) ▸ hO262), (Or.inr (⟨(by first | done | with_reducible assumption | omega), (by (try rw [c319]); first | done | with_reducible assumption | omega), (by (try rw [c322]); first | done | with_reducible assumption | omega), (by (try rw [c324]); first | done | with_reducible assumption | omega), trivial⟩)), trivial⟩
          · skip
            exfalso; omega
      · skip
        rw [c207] at p224
        rw [c180] at p224
        obtain ⟨v340, c341⟩ : ∃ v, I196 a0 9 = v := ⟨_, rfl⟩
        have b342 := iv15_9 hS205.1 ta0 c341
        rw [c341] at p225
        rw [c341] at p226
        obtain ⟨v343, c344⟩ : ∃ v, I196 a0 10 = v := ⟨_, rfl⟩
        have b345 := iv15_10 hS205.1 ta0 c344
        rw [c344] at p227
        obtain ⟨v346, c347⟩ : ∃ v, I196 a0 11 = v := ⟨_, rfl⟩
        rw [c347] at p228
        obtain ⟨y348, c349⟩ : ∃ v, L198 a0 15 = v := ⟨_, rfl⟩
        rw [c349] at p229
        obtain ⟨v350, c351⟩ : ∃ v, I196 a0 12 = v := ⟨_, rfl⟩
        rw [c351] at p230
        obtain ⟨v352, c353⟩ : ∃ v, I196 a0 8 = v := ⟨_, rfl⟩
        have b354 := iv15_8 hS205.1 ta0 c353
        rw [c353] at p231
        refine q_if_eq 31 dX12_readTurner_24 (by decide) (fun h355 => ?_) (fun h355 => ?_)
        · skip
          refine tr_aload_n dX12_readTurner_31 rfl ?_
          refine tr_ldcwS dX12_readTurner_32 ld12_320 ?_
          refine q_callVi hE (M' := mX12_eatsWord) (as := [_]) dX12_readTurner_35 lk12_290 inX12_eatsWord seX12_eatsWord myX12_eatsWord (by decide) ⟨by decide, by decide⟩ rfl (kR15 hS205.1 ta0) (Nat.le_of_ble_eq_true rfl) rfl rfl (by decide) (by decide) (fk_X12_eatsWord hS205.1 (gB) ((tkN gB (tkN gB gs))) ta0 (by decide) (TxA.kp hT hS205 ta0 rfl rfl rfl (by decide +kernel) (by decide +kernel)) (by (try rw [c341]); first | done | with_reducible assumption | omega) (by (try rw [c341]); first | done | with_reducible assumption | omega) (by (try rw [c344]); first | done | with_reducible assumption | omega) (by (try rw [c347]); first | done | with_reducible assumption | omega) (by (try rw [c349]); first | done | assumption) (by (try rw [c351]); first | done | assumption) (by (try rw [c353]); first | done | assumption) (by (try rw [((hS205.cell ta0 (by decide +kernel)).trans c26)]); first | done | with_reducible assumption | omega)) ?_
          rintro v361 cn' K' N' I356 R357 L358 ⟨rfl, rfl, rfl, rfl, g359, gl360, h362, dj363, -⟩
          (try rw [pk_3] at dj363)
          have hM364 : NmM I356 R0 L198 a1 gQ := NmM.kpS hM210 g359 hS205.1 ta1 (by decide +kernel) (by decide +kernel)
          have hS365 := hS205.tr g359 (by decide +kernel) (by decide +kernel)
          have c366 : I356 a1 4 = v45 := (g359.cell ta1 (by decide +kernel)).trans c206
          have c367 : I356 a0 13 = v179 := (g359.cell ta0 (by decide +kernel)).trans c207
          have hO368 : FrO 14 a1 T I0 I356 := hO208.st g359 (by decide +kernel)
          have hL369 := hL209.tr gl360 (by decide +kernel)
          have hM370 : NmM I356 R0 L358 a1 gQ := NmM.kpL hM364 gl360 hS365.1 ta1 (by decide +kernel)
          rcases dj363 with ⟨p371, p372, p373, p374, p375, p376, p377, p378, p379, p380, p381, -⟩ | ⟨p382, p383, p384, p385, p386, p387, p388, p389, p390, p391, -⟩
          · skip
            rw [c367] at p374
            rw [c207] at p374
            obtain ⟨v392, c393⟩ : ∃ v, I356 a0 9 = v := ⟨_, rfl⟩
            have b394 := iv15_9 hS365.1 ta0 c393
            rw [c393] at p375
            rw [c393] at p376
            obtain ⟨v395, c396⟩ : ∃ v, I356 a0 10 = v := ⟨_, rfl⟩
            have b397 := iv15_10 hS365.1 ta0 c396
            rw [c396] at p377
            obtain ⟨v398, c399⟩ : ∃ v, I356 a0 11 = v := ⟨_, rfl⟩
            rw [c399] at p378
            obtain ⟨y400, c401⟩ : ∃ v, L358 a0 15 = v := ⟨_, rfl⟩
            rw [c401] at p379
            obtain ⟨v402, c403⟩ : ∃ v, I356 a0 12 = v := ⟨_, rfl⟩
            rw [c403] at p380
            obtain ⟨v404, c405⟩ : ∃ v, I356 a0 8 = v := ⟨_, rfl⟩
            have b406 := iv15_8 hS365.1 ta0 c405
            rw [c405] at p381
            refine q_if_eq 45 dX12_readTurner_38 (by decide) (fun h407 => ?_) (fun h407 => ?_)
            · skip
              exfalso; omega
            · skip
              refine q_iconst dX12_readTurner_41 (by decide) ?_
              intro v408 h409
              refine tr_goto 73 dX12_readTurner_42 (by decide) ?_
              refine tr_istore_n dX12_readTurner_73 (by decide) (by decide) ?_
              have kd410 : tkd gB (tkN gB (tkN gB gs)) = 1 := by simp [tkd, (show tkK gB (tkN gB (tkN gB gs)) = 1 by omega), (show tkW gB (tkN gB (tkN gB gs)) = 2500036 by omega)]
              have kd410x : tkd gB (tkN gB (tkN gB gs)) = v408.toInt := by omega
              refine tr_iload_n dX12_readTurner_74 rfl ?_
              refine q_iconst dX12_readTurner_75 (by decide) ?_
              intro v411 h412
              refine q_icmp_ne 84 dX12_readTurner_76 (by decide) (fun h413 => ?_) (fun h413 => ?_)
              · skip
                refine sf_tuL hE hZ hS365.1 (gB) (gs) (gQ) ta0 (by omega) (TxA.kp hT hS365 ta0 rfl rfl rfl (by decide +kernel) (by decide +kernel)) (fun b hb => (Option.some.inj (d2.symm.trans hb)) ▸ hM370) (by (try rw [c393]); first | done | with_reducible assumption | omega) (by (try rw [c393]); first | done | with_reducible assumption | omega) (by (try rw [c396]); first | done | with_reducible assumption | omega) (by (try rw [c399]); first | done | with_reducible assumption | omega) (by (try rw [c401]); first | done | assumption) (by (try rw [c403]); first | done | assumption) (by (try rw [c405]); first | done | assumption) (by (try rw [((hS365.cell ta0 (by decide +kernel)).trans c26)]); first | done | with_reducible assumption | omega) (fun q0 z0 => by obtain rfl := Option.some.inj ((d2).symm.trans z0); (try rw [((hS365.cell ta1 (by decide +kernel)).trans c30)]); first | done | with_reducible assumption | omega) (fun q0 z0 => by obtain rfl := Option.some.inj ((d2).symm.trans z0); (try rw [((hS365.cell ta1 (by decide +kernel)).trans c34)]); first | done | with_reducible assumption | omega) (fun q0 z0 => by obtain rfl := Option.some.inj ((d2).symm.trans z0); (try rw [((hS365.cell ta1 (by decide +kernel)).trans c38)]); first | done | with_reducible assumption | omega) (fun q0 z0 => by obtain rfl := Option.some.inj ((d2).symm.trans z0); (try rw [((hS365.cell ta1 (by decide +kernel)).trans c42)]); first | done | with_reducible assumption | omega) (fun q0 z0 => by obtain rfl := Option.some.inj ((d2).symm.trans z0); (try rw [c366]); first | done | with_reducible assumption | omega) (fun q0 z0 => by obtain rfl := Option.some.inj ((d2).symm.trans z0); (try rw [((hS365.cell ta1 (by decide +kernel)).trans c50)]); first | done | with_reducible assumption | omega) (fun q0 z0 => by obtain rfl := Option.some.inj ((d2).symm.trans z0); (try rw [((hS365.cell ta1 (by decide +kernel)).trans c54)]); first | done | with_reducible assumption | omega) (fun q0 z0 => by obtain rfl := Option.some.inj ((d2).symm.trans z0); (try rw [((hS365.cell ta1 (by decide +kernel)).trans c58)]); first | done | with_reducible assumption | omega) (by first | done | assumption) (by first | done | with_reducible assumption | omega) (by first | done | with_reducible assumption | omega) (by first | done | with_reducible assumption | omega) (by first | done | with_reducible assumption | omega) (by first | done | with_reducible assumption | omega) (by first | done | with_reducible assumption | omega) (by first | done | with_reducible assumption | omega) (by first | done | with_reducible assumption | omega) (by first | done | with_reducible assumption | omega) ⟨_, d2⟩ rfl rfl rfl ?_
                rintro I414 R415 L416 ⟨g417, rp418, rp419, dj420, -⟩
                obtain rfl : R0 = R415 := funext fun a => funext fun j => (g417.2.2 a j (wm_no rfl)).symm
                have hS421 := hS365.tr g417 (by decide +kernel) (by decide +kernel)
                have hO422 : FrO 14 a1 T I0 I414 := hO368.tr (rp419 _ d2)
                rcases dj420 with ⟨p423, p424, p425, p426, p427, p428, p429, p430, p431, p432, p433, p434, p435, p436, p437, p438, p439, gl440, rp441, rp442, -⟩ | ⟨p443, p444, p445, p446, -⟩
                · skip
                  have hL447 := hL369.tr gl440 (by decide +kernel)
                  have p448 := p424 _ d2
                  clear p424
                  rw [((hS421.cell ta1 (by decide +kernel)).trans c30)] at p448
                  have p449 := p425 _ d2
                  clear p425
                  rw [((hS421.cell ta1 (by decide +kernel)).trans c34)] at p449
                  have p450 := p426 _ d2
                  clear p426
                  rw [((hS421.cell ta1 (by decide +kernel)).trans c38)] at p450
                  have p451 := p427 _ d2
                  clear p427
                  rw [((hS421.cell ta1 (by decide +kernel)).trans c42)] at p451
                  obtain ⟨v452, c453⟩ : ∃ v, I414 a1 4 = v := ⟨_, rfl⟩
                  have b454 := iv14_4 hS421.1 ta1 c453
                  have p455 := p428 _ d2
                  clear p428
                  rw [c453] at p455
                  have p456 := p429 _ d2
                  clear p429
                  rw [((hS421.cell ta1 (by decide +kernel)).trans c50)] at p456
                  have p457 := p430 _ d2
                  clear p430
                  rw [((hS421.cell ta1 (by decide +kernel)).trans c54)] at p457
                  have p458 := p431 _ d2
                  clear p431
                  rw [((hS421.cell ta1 (by decide +kernel)).trans c58)] at p458
                  obtain ⟨v459, c460⟩ : ∃ v, I414 a0 13 = v := ⟨_, rfl⟩
                  rw [c460] at p432
                  rw [c367] at p432
                  obtain ⟨v461, c462⟩ : ∃ v, I414 a0 9 = v := ⟨_, rfl⟩
                  have b463 := iv15_9 hS421.1 ta0 c462
                  rw [c462] at p433
                  rw [c462] at p434
                  obtain ⟨v464, c465⟩ : ∃ v, I414 a0 10 = v := ⟨_, rfl⟩
                  have b466 := iv15_10 hS421.1 ta0 c465
                  rw [c465] at p435
                  obtain ⟨v467, c468⟩ : ∃ v, I414 a0 11 = v := ⟨_, rfl⟩
                  rw [c468] at p436
                  obtain ⟨y469, c470⟩ : ∃ v, L416 a0 15 = v := ⟨_, rfl⟩
                  rw [c470] at p437
                  obtain ⟨v471, c472⟩ : ∃ v, I414 a0 12 = v := ⟨_, rfl⟩
                  rw [c472] at p438
                  obtain ⟨v473, c474⟩ : ∃ v, I414 a0 8 = v := ⟨_, rfl⟩
                  have b475 := iv15_8 hS421.1 ta0 c474
                  rw [c474] at p439
                  obtain ⟨v476, c477⟩ : ∃ v, I414 a0 14 = v := ⟨_, rfl⟩
                  exact ⟨rfl, rfl, rfl, rfl, rfl, hS421, (fun b hb => (Option.some.inj (d2.symm.trans hb)) ▸ ((((((FrM.rf (R := R0) (b := a1) (T := T)).st g83 (by decide +kernel)).st g146 (by decide +kernel)).st g199 (by decide +kernel)).st g359 (by decide +kernel)).tr (rp418 _ d2))), (fun dr hd => (Option.some.inj (d2.symm.trans hd)) ▸ hO422), (Or.inl ⟨(by first | done | with_reducible assumption | omega), (fun q0 z0 => by obtain rfl := Option.some.inj ((d2).symm.trans z0); (try rw [((hS421.cell ta1 (by decide +kernel)).trans c30)]); first | done | with_reducible assumption | omega), (fun q0 z0 => by obtain rfl := Option.some.inj ((d2).symm.trans z0); (try rw [((hS421.cell ta1 (by decide +kernel)).trans c34)]); first | done | with_reducible assumption | omega), (fun q0 z0 => by obtain rfl := Option.some.inj ((d2).symm.trans z0); (try rw [((hS421.cell ta1 (by decide +kernel)).trans c38)]); first | done | with_reducible assumption | omega), (fun q0 z0 => by obtain rfl := Option.some.inj ((d2).symm.trans z0); (try rw [((hS421.cell ta1 (by decide +kernel)).trans c42)]); first | done | with_reducible assumption | omega), (fun q0 z0 => by obtain rfl := Option.some.inj ((d2).symm.trans z0); (try rw [c453]); first | done | with_reducible assumption | omega), (fun q0 z0 => by obtain rfl := Option.some.inj ((d2).symm.trans z0); (try rw [((hS421.cell ta1 (by decide +kernel)).trans c50)]); first | done | with_reducible assumption | omega), (fun q0 z0 => by obtain rfl := Option.some.inj ((d2).symm.trans z0); (try rw [((hS421.cell ta1 (by decide +kernel)).trans c54)]); first | done | with_reducible assumption | omega), (fun q0 z0 => by obtain rfl := Option.some.inj ((d2).symm.trans z0); (try rw [((hS421.cell ta1 (by decide +kernel)).trans c58)]); first | done | with_reducible assumption | omega), (by (try rw [c460]); (try rw [c65]); first | done | with_reducible assumption | omega), (by (try rw [c462]); first | done | with_reducible assumption | omega), (by (try rw [c462]); first | done | with_reducible assumption | omega), (by (try rw [c465]); first | done | with_reducible assumption | omega), (by (try rw [c468]); first | done | with_reducible assumption | omega), (by (try rw [c470]); first | done | assumption), (by (try rw [c472]); first | done | assumption), (by (try rw [c474]); first | done | assumption), hL447, rp441, (fun E b hb hE => by obtain rfl := Option.some.inj (d2.symm.trans hb); exact rp442 _ _ d2 (AlM.kp hE hW0 ta1 ((g359.cell ta1 (wm_no (by decide +kernel))).trans ((g199.cell ta1 (wm_no (by decide +kernel))).trans ((g146.cell ta1 (wm_no (by decide +kernel))).trans (g83.cell ta1 (wm_no (by decide +kernel)))))) (((((RoF.rf (ex := rdm) (T := T)).tr (RoF.st g83 (by decide +kernel))).tr (RoF.st g146 (by decide +kernel))).tr (RoF.st g199 (by decide +kernel))).tr (RoF.st g359 (by decide +kernel))))), trivial⟩), trivial⟩
                · skip
                  obtain ⟨v478, c479⟩ : ∃ v, I414 a0 9 = v := ⟨_, rfl⟩
                  have b480 := iv15_9 hS421.1 ta0 c479
                  rw [c479] at p444
                  obtain ⟨v481, c482⟩ : ∃ v, I414 a0 13 = v := ⟨_, rfl⟩
                  rw [c482] at p445
                  obtain ⟨v483, c484⟩ : ∃ v, I414 a0 14 = v := ⟨_, rfl⟩
                  rw [c484] at p446
                  obtain ⟨v485, c486⟩ : ∃ v, I414 a1 4 = v := ⟨_, rfl⟩
                  have b487 := iv14_4 hS421.1 ta1 c486
                  obtain ⟨v488, c489⟩ : ∃ v, I414 a0 10 = v := ⟨_, rfl⟩
                  have b490 := iv15_10 hS421.1 ta0 c489
                  obtain ⟨v491, c492⟩ : ∃ v, I414 a0 11 = v := ⟨_, rfl⟩
                  obtain ⟨y493, c494⟩ : ∃ v, L416 a0 15 = v := ⟨_, rfl⟩
                  obtain ⟨v495, c496⟩ : ∃ v, I414 a0 12 = v := ⟨_, rfl⟩
                  obtain ⟨v497, c498⟩ : ∃ v, I414 a0 8 = v := ⟨_, rfl⟩
                  have b499 := iv15_8 hS421.1 ta0 c498
                  exact ⟨rfl, rfl, rfl, rfl, rfl, hS421, (fun b hb => (Option.some.inj (d2.symm.trans hb)) ▸ ((((((FrM.rf (R := R0) (b := a1) (T := T)).st g83 (by decide +kernel)).st g146 (by decide +kernel)).st g199 (by decide +kernel)).st g359 (by decide +kernel)).tr (rp418 _ d2))), (fun dr hd => (Option.some.inj (d2.symm.trans hd)) ▸ hO422), (Or.inr (⟨(by first | done | with_reducible assumption | omega), (by (try rw [c479]); first | done | with_reducible assumption | omega), (by (try rw [c482]); first | done | with_reducible assumption | omega), (by (try rw [c484]); first | done | with_reducible assumption | omega), trivial⟩)), trivial⟩
              · skip
                exfalso; omega
          · skip
            rw [c367] at p384
            rw [c207] at p384
            obtain ⟨v500, c501⟩ : ∃ v, I356 a0 9 = v := ⟨_, rfl⟩
            have b502 := iv15_9 hS365.1 ta0 c501
            rw [c501] at p385
            rw [c501] at p386
            obtain ⟨v503, c504⟩ : ∃ v, I356 a0 10 = v := ⟨_, rfl⟩
            have b505 := iv15_10 hS365.1 ta0 c504
            rw [c504] at p387
            obtain ⟨v506, c507⟩ : ∃ v, I356 a0 11 = v := ⟨_, rfl⟩
            rw [c507] at p388
            obtain ⟨y508, c509⟩ : ∃ v, L358 a0 15 = v := ⟨_, rfl⟩
            rw [c509] at p389
            obtain ⟨v510, c511⟩ : ∃ v, I356 a0 12 = v := ⟨_, rfl⟩
            rw [c511] at p390
            obtain ⟨v512, c513⟩ : ∃ v, I356 a0 8 = v := ⟨_, rfl⟩
            have b514 := iv15_8 hS365.1 ta0 c513
            rw [c513] at p391
            refine q_if_eq 45 dX12_readTurner_38 (by decide) (fun h515 => ?_) (fun h515 => ?_)
            · skip
              refine tr_aload_n dX12_readTurner_45 rfl ?_
              refine tr_ldcwS dX12_readTurner_46 ld12_322 ?_
              refine q_callVi hE (M' := mX12_eatsWord) (as := [_]) dX12_readTurner_49 lk12_290 inX12_eatsWord seX12_eatsWord myX12_eatsWord (by decide) ⟨by decide, by decide⟩ rfl (kR15 hS365.1 ta0) (Nat.le_of_ble_eq_true rfl) rfl rfl (by decide) (by decide) (fk_X12_eatsWord hS365.1 (gB) ((tkN gB (tkN gB gs))) ta0 (by decide) (TxA.kp hT hS365 ta0 rfl rfl rfl (by decide +kernel) (by decide +kernel)) (by (try rw [c501]); first | done | with_reducible assumption | omega) (by (try rw [c501]); first | done | with_reducible assumption | omega) (by (try rw [c504]); first | done | with_reducible assumption | omega) (by (try rw [c507]); first | done | with_reducible assumption | omega) (by (try rw [c509]); first | done | assumption) (by (try rw [c511]); first | done | assumption) (by (try rw [c513]); first | done | assumption) (by (try rw [((hS365.cell ta0 (by decide +kernel)).trans c26)]); first | done | with_reducible assumption | omega)) ?_
              rintro v521 cn' K' N' I516 R517 L518 ⟨rfl, rfl, rfl, rfl, g519, gl520, h522, dj523, -⟩
              (try rw [pk_9] at dj523)
              have hM524 : NmM I516 R0 L358 a1 gQ := NmM.kpS hM370 g519 hS365.1 ta1 (by decide +kernel) (by decide +kernel)
              have hS525 := hS365.tr g519 (by decide +kernel) (by decide +kernel)
              have c526 : I516 a1 4 = v45 := (g519.cell ta1 (by decide +kernel)).trans c366
              have c527 : I516 a0 13 = v179 := (g519.cell ta0 (by decide +kernel)).trans c367
              have hO528 : FrO 14 a1 T I0 I516 := hO368.st g519 (by decide +kernel)
              have hL529 := hL369.tr gl520 (by decide +kernel)
              have hM530 : NmM I516 R0 L518 a1 gQ := NmM.kpL hM524 gl520 hS525.1 ta1 (by decide +kernel)
              rcases dj523 with ⟨p531, p532, p533, p534, p535, p536, p537, p538, p539, p540, p541, -⟩ | ⟨p542, p543, p544, p545, p546, p547, p548, p549, p550, p551, -⟩
              · skip
                rw [c527] at p534
                rw [c367] at p534
                obtain ⟨v552, c553⟩ : ∃ v, I516 a0 9 = v := ⟨_, rfl⟩
                have b554 := iv15_9 hS525.1 ta0 c553
                rw [c553] at p535
                rw [c553] at p536
                obtain ⟨v555, c556⟩ : ∃ v, I516 a0 10 = v := ⟨_, rfl⟩
                have b557 := iv15_10 hS525.1 ta0 c556
                rw [c556] at p537
                obtain ⟨v558, c559⟩ : ∃ v, I516 a0 11 = v := ⟨_, rfl⟩
                rw [c559] at p538
                obtain ⟨y560, c561⟩ : ∃ v, L518 a0 15 = v := ⟨_, rfl⟩
                rw [c561] at p539
                obtain ⟨v562, c563⟩ : ∃ v, I516 a0 12 = v := ⟨_, rfl⟩
                rw [c563] at p540
                obtain ⟨v564, c565⟩ : ∃ v, I516 a0 8 = v := ⟨_, rfl⟩
                have b566 := iv15_8 hS525.1 ta0 c565
                rw [c565] at p541
                refine q_if_eq 59 dX12_readTurner_52 (by decide) (fun h567 => ?_) (fun h567 => ?_)
                · skip
                  exfalso; omega
                · skip
                  refine q_iconst dX12_readTurner_55 (by decide) ?_
                  intro v568 h569
                  refine tr_goto 73 dX12_readTurner_56 (by decide) ?_
                  refine tr_istore_n dX12_readTurner_73 (by decide) (by decide) ?_
                  have kd570 : tkd gB (tkN gB (tkN gB gs)) = 2 := by simp [tkd, (show tkK gB (tkN gB (tkN gB gs)) = 1 by omega), (show tkW gB (tkN gB (tkN gB gs)) = 136230 by omega)]
                  have kd570x : tkd gB (tkN gB (tkN gB gs)) = v568.toInt := by omega
                  refine tr_iload_n dX12_readTurner_74 rfl ?_
                  refine q_iconst dX12_readTurner_75 (by decide) ?_
                  intro v571 h572
                  refine q_icmp_ne 84 dX12_readTurner_76 (by decide) (fun h573 => ?_) (fun h573 => ?_)
                  · skip
                    refine sf_tuL hE hZ hS525.1 (gB) (gs) (gQ) ta0 (by omega) (TxA.kp hT hS525 ta0 rfl rfl rfl (by decide +kernel) (by decide +kernel)) (fun b hb => (Option.some.inj (d2.symm.trans hb)) ▸ hM530) (by (try rw [c553]); first | done | with_reducible assumption | omega) (by (try rw [c553]); first | done | with_reducible assumption | omega) (by (try rw [c556]); first | done | with_reducible assumption | omega) (by (try rw [c559]); first | done | with_reducible assumption | omega) (by (try rw [c561]); first | done | assumption) (by (try rw [c563]); first | done | assumption) (by (try rw [c565]); first | done | assumption) (by (try rw [((hS525.cell ta0 (by decide +kernel)).trans c26)]); first | done | with_reducible assumption | omega) (fun q0 z0 => by obtain rfl := Option.some.inj ((d2).symm.trans z0); (try rw [((hS525.cell ta1 (by decide +kernel)).trans c30)]); first | done | with_reducible assumption | omega) (fun q0 z0 => by obtain rfl := Option.some.inj ((d2).symm.trans z0); (try rw [((hS525.cell ta1 (by decide +kernel)).trans c34)]); first | done | with_reducible assumption | omega) (fun q0 z0 => by obtain rfl := Option.some.inj ((d2).symm.trans z0); (try rw [((hS525.cell ta1 (by decide +kernel)).trans c38)]); first | done | with_reducible assumption | omega) (fun q0 z0 => by obtain rfl := Option.some.inj ((d2).symm.trans z0); (try rw [((hS525.cell ta1 (by decide +kernel)).trans c42)]); first | done | with_reducible assumption | omega) (fun q0 z0 => by obtain rfl := Option.some.inj ((d2).symm.trans z0); (try rw [c526]); first | done | with_reducible assumption | omega) (fun q0 z0 => by obtain rfl := Option.some.inj ((d2).symm.trans z0); (try rw [((hS525.cell ta1 (by decide +kernel)).trans c50)]); first | done | with_reducible assumption | omega) (fun q0 z0 => by obtain rfl := Option.some.inj ((d2).symm.trans z0); (try rw [((hS525.cell ta1 (by decide +kernel)).trans c54)]); first | done | with_reducible assumption | omega) (fun q0 z0 => by obtain rfl := Option.some.inj ((d2).symm.trans z0); (try rw [((hS525.cell ta1 (by decide +kernel)).trans c58)]); first | done | with_reducible assumption | omega) (by first | done | assumption) (by first | done | with_reducible assumption | omega) (by first | done | with_reducible assumption | omega) (by first | done | with_reducible assumption | omega) (by first | done | with_reducible assumption | omega) (by first | done | with_reducible assumption | omega) (by first | done | with_reducible assumption | omega) (by first | done | with_reducible assumption | omega) (by first | done | with_reducible assumption | omega) (by first | done | with_reducible assumption | omega) ⟨_, d2⟩ rfl rfl rfl ?_
                    rintro I574 R575 L576 ⟨g577, rp578, rp579, dj580, -⟩
                    obtain rfl : R0 = R575 := funext fun a => funext fun j => (g577.2.2 a j (wm_no rfl)).symm
                    have hS581 := hS525.tr g577 (by decide +kernel) (by decide +kernel)
                    have hO582 : FrO 14 a1 T I0 I574 := hO528.tr (rp579 _ d2)
                    rcases dj580 with ⟨p583, p584, p585, p586, p587, p588, p589, p590, p591, p592, p593, p594, p595, p596, p597, p598, p599, gl600, rp601, rp602, -⟩ | ⟨p603, p604, p605, p606, -⟩
                    · skip
                      have hL607 := hL529.tr gl600 (by decide +kernel)
                      have p608 := p584 _ d2
                      clear p584
                      rw [((hS581.cell ta1 (by decide +kernel)).trans c30)] at p608
                      have p609 := p585 _ d2
                      clear p585
                      rw [((hS581.cell ta1 (by decide +kernel)).trans c34)] at p609
                      have p610 := p586 _ d2
                      clear p586
                      rw [((hS581.cell ta1 (by decide +kernel)).trans c38)] at p610
                      have p611 := p587 _ d2
                      clear p587
                      rw [((hS581.cell ta1 (by decide +kernel)).trans c42)] at p611
                      obtain ⟨v612, c613⟩ : ∃ v, I574 a1 4 = v := ⟨_, rfl⟩
                      have b614 := iv14_4 hS581.1 ta1 c613
                      have p615 := p588 _ d2
                      clear p588
                      rw [c613] at p615
                      have p616 := p589 _ d2
                      clear p589
                      rw [((hS581.cell ta1 (by decide +kernel)).trans c50)] at p616
                      have p617 := p590 _ d2
                      clear p590
                      rw [((hS581.cell ta1 (by decide +kernel)).trans c54)] at p617
                      have p618 := p591 _ d2
                      clear p591
                      rw [((hS581.cell ta1 (by decide +kernel)).trans c58)] at p618
                      obtain ⟨v619, c620⟩ : ∃ v, I574 a0 13 = v := ⟨_, rfl⟩
                      rw [c620] at p592
                      rw [c527] at p592
                      obtain ⟨v621, c622⟩ : ∃ v, I574 a0 9 = v := ⟨_, rfl⟩
                      have b623 := iv15_9 hS581.1 ta0 c622
                      rw [c622] at p593
                      rw [c622] at p594
                      obtain ⟨v624, c625⟩ : ∃ v, I574 a0 10 = v := ⟨_, rfl⟩
                      have b626 := iv15_10 hS581.1 ta0 c625
                      rw [c625] at p595
                      obtain ⟨v627, c628⟩ : ∃ v, I574 a0 11 = v := ⟨_, rfl⟩
                      rw [c628] at p596
                      obtain ⟨y629, c630⟩ : ∃ v, L576 a0 15 = v := ⟨_, rfl⟩
                      rw [c630] at p597
                      obtain ⟨v631, c632⟩ : ∃ v, I574 a0 12 = v := ⟨_, rfl⟩
                      rw [c632] at p598
                      obtain ⟨v633, c634⟩ : ∃ v, I574 a0 8 = v := ⟨_, rfl⟩
                      have b635 := iv15_8 hS581.1 ta0 c634
                      rw [c634] at p599
                      obtain ⟨v636, c637⟩ : ∃ v, I574 a0 14 = v := ⟨_, rfl⟩
                      exact ⟨rfl, rfl, rfl, rfl, rfl, hS581, (fun b hb => (Option.some.inj (d2.symm.trans hb)) ▸ (((((((FrM.rf (R := R0) (b := a1) (T := T)).st g83 (by decide +kernel)).st g146 (by decide +kernel)).st g199 (by decide +kernel)).st g359 (by decide +kernel)).st g519 (by decide +kernel)).tr (rp578 _ d2))), (fun dr hd => (Option.some.inj (d2.symm.trans hd)) ▸ hO582), (Or.inl ⟨(by first | done | with_reducible assumption | omega), (fun q0 z0 => by obtain rfl := Option.some.inj ((d2).symm.trans z0); (try rw [((hS581.cell ta1 (by decide +kernel)).trans c30)]); first | done | with_reducible assumption | omega), (fun q0 z0 => by obtain rfl := Option.some.inj ((d2).symm.trans z0); (try rw [((hS581.cell ta1 (by decide +kernel)).trans c34)]); first | done | with_reducible assumption | omega), (fun q0 z0 => by obtain rfl := Option.some.inj ((d2).symm.trans z0); (try rw [((hS581.cell ta1 (by decide +kernel)).trans c38)]); first | done | with_reducible assumption | omega), (fun q0 z0 => by obtain rfl := Option.some.inj ((d2).symm.trans z0); (try rw [((hS581.cell ta1 (by decide +kernel)).trans c42)]); first | done | with_reducible assumption | omega), (fun q0 z0 => by obtain rfl := Option.some.inj ((d2).symm.trans z0); (try rw [c613]); first | done | with_reducible assumption | omega), (fun q0 z0 => by obtain rfl := Option.some.inj ((d2).symm.trans z0); (try rw [((hS581.cell ta1 (by decide +kernel)).trans c50)]); first | done | with_reducible assumption | omega), (fun q0 z0 => by obtain rfl := Option.some.inj ((d2).symm.trans z0); (try rw [((hS581.cell ta1 (by decide +kernel)).trans c54)]); first | done | with_reducible assumption | omega), (fun q0 z0 => by obtain rfl := Option.some.inj ((d2).symm.trans z0); (try rw [((hS581.cell ta1 (by decide +kernel)).trans c58)]); first | done | with_reducible assumption | omega), (by (try rw [c620]); (try rw [c65]); first | done | with_reducible assumption | omega), (by (try rw [c622]); first | done | with_reducible assumption | omega), (by (try rw [c622]); first | done | with_reducible assumption | omega), (by (try rw [c625]); first | done | with_reducible assumption | omega), (by (try rw [c628]); first | done | with_reducible assumption | omega), (by (try rw [c630]); first | done | assumption), (by (try rw [c632]); first | done | assumption), (by (try rw [c634]); first | done | assumption), hL607, rp601, (fun E b hb hE => by obtain rfl := Option.some.inj (d2.symm.trans hb); exact rp602 _ _ d2 (AlM.kp hE hW0 ta1 ((g519.cell ta1 (wm_no (by decide +kernel))).trans ((g359.cell ta1 (wm_no (by decide +kernel))).trans ((g199.cell ta1 (wm_no (by decide +kernel))).trans ((g146.cell ta1 (wm_no (by decide +kernel))).trans (g83.cell ta1 (wm_no (by decide +kernel))))))) ((((((RoF.rf (ex := rdm) (T := T)).tr (RoF.st g83 (by decide +kernel))).tr (RoF.st g146 (by decide +kernel))).tr (RoF.st g199 (by decide +kernel))).tr (RoF.st g359 (by decide +kernel))).tr (RoF.st g519 (by decide +kernel))))), trivial⟩), trivial⟩
                    · skip
                      obtain ⟨v638, c639⟩ : ∃ v, I574 a0 9 = v := ⟨_, rfl⟩
                      have b640 := iv15_9 hS581.1 ta0 c639
                      rw [c639] at p604
                      obtain ⟨v641, c642⟩ : ∃ v, I574 a0 13 = v := ⟨_, rfl⟩
                      rw [c642] at p605
                      obtain ⟨v643, c644⟩ : ∃ v, I574 a0 14 = v := ⟨_, rfl⟩
                      rw [c644] at p606
                      obtain ⟨v645, c646⟩ : ∃ v, I574 a1 4 = v := ⟨_, rfl⟩
                      have b647 := iv14_4 hS581.1 ta1 c646
                      obtain ⟨v648, c649⟩ : ∃ v, I574 a0 10 = v := ⟨_, rfl⟩
                      have b650 := iv15_10 hS581.1 ta0 c649
                      obtain ⟨v651, c652⟩ : ∃ v, I574 a0 11 = v := ⟨_, rfl⟩
                      obtain ⟨y653, c654⟩ : ∃ v, L576 a0 15 = v := ⟨_, rfl⟩
                      obtain ⟨v655, c656⟩ : ∃ v, I574 a0 12 = v := ⟨_, rfl⟩
                      obtain ⟨v657, c658⟩ : ∃ v, I574 a0 8 = v := ⟨_, rfl⟩
                      have b659 := iv15_8 hS581.1 ta0 c658
                      exact ⟨rfl, rfl, rfl, rfl, rfl, hS581, (fun b hb => (Option.some.inj (d2.symm.trans hb)) ▸ (((((((FrM.rf (R := R0) (b := a1) (T := T)).st g83 (by decide +kernel)).st g146 (by decide +kernel)).st g199 (by decide +kernel)).st g359 (by decide +kernel)).st g519 (by decide +kernel)).tr (rp578 _ d2))), (fun dr hd => (Option.some.inj (d2.symm.trans hd)) ▸ hO582), (Or.inr (⟨(by first | done | with_reducible assumption | omega), (by (try rw [c639]); first | done | with_reducible assumption | omega), (by (try rw [c642]); first | done | with_reducible assumption | omega), (by (try rw [c644]); first | done | with_reducible assumption | omega), trivial⟩)), trivial⟩
                  · skip
                    exfalso; omega
              · skip
                rw [c527] at p544
                rw [c367] at p544
                obtain ⟨v660, c661⟩ : ∃ v, I516 a0 9 = v := ⟨_, rfl⟩
                have b662 := iv15_9 hS525.1 ta0 c661
                rw [c661] at p545
                rw [c661] at p546
                obtain ⟨v663, c664⟩ : ∃ v, I516 a0 10 = v := ⟨_, rfl⟩
                have b665 := iv15_10 hS525.1 ta0 c664
                rw [c664] at p547
                obtain ⟨v666, c667⟩ : ∃ v, I516 a0 11 = v := ⟨_, rfl⟩
                rw [c667] at p548
                obtain ⟨y668, c669⟩ : ∃ v, L518 a0 15 = v := ⟨_, rfl⟩
                rw [c669] at p549
                obtain ⟨v670, c671⟩ : ∃ v, I516 a0 12 = v := ⟨_, rfl⟩
                rw [c671] at p550
                obtain ⟨v672, c673⟩ : ∃ v, I516 a0 8 = v := ⟨_, rfl⟩
                have b674 := iv15_8 hS525.1 ta0 c673
                rw [c673] at p551
                refine q_if_eq 59 dX12_readTurner_52 (by decide) (fun h675 => ?_) (fun h675 => ?_)
                · skip
                  refine tr_aload_n dX12_readTurner_59 rfl ?_
                  refine tr_ldcS dX12_readTurner_60 ld12_178 ?_
                  refine q_callVi hE (M' := mX12_eatsWord) (as := [_]) dX12_readTurner_62 lk12_290 inX12_eatsWord seX12_eatsWord myX12_eatsWord (by decide) ⟨by decide, by decide⟩ rfl (kR15 hS525.1 ta0) (Nat.le_of_ble_eq_true rfl) rfl rfl (by decide) (by decide) (fk_X12_eatsWord hS525.1 (gB) ((tkN gB (tkN gB gs))) ta0 (by decide) (TxA.kp hT hS525 ta0 rfl rfl rfl (by decide +kernel) (by decide +kernel)) (by (try rw [c661]); first | done | with_reducible assumption | omega) (by (try rw [c661]); first | done | with_reducible assumption | omega) (by (try rw [c664]); first | done | with_reducible assumption | omega) (by (try rw [c667]); first | done | with_reducible assumption | omega) (by (try rw [c669]); first | done | assumption) (by (try rw [c671]); first | done | assumption) (by (try rw [c673]); first | done | assumption) (by (try rw [((hS525.cell ta0 (by decide +kernel)).trans c26)]); first | done | with_reducible assumption | omega)) ?_
                  rintro v681 cn' K' N' I676 R677 L678 ⟨rfl, rfl, rfl, rfl, g679, gl680, h682, dj683, -⟩
                  (try rw [pk_0] at dj683)
                  have hM684 : NmM I676 R0 L518 a1 gQ := NmM.kpS hM530 g679 hS525.1 ta1 (by decide +kernel) (by decide +kernel)
                  have hS685 := hS525.tr g679 (by decide +kernel) (by decide +kernel)
                  have c686 : I676 a1 4 = v45 := (g679.cell ta1 (by decide +kernel)).trans c526
                  have c687 : I676 a0 13 = v179 := (g679.cell ta0 (by decide +kernel)).trans c527
                  have hO688 : FrO 14 a1 T I0 I676 := hO528.st g679 (by decide +kernel)
                  have hL689 := hL529.tr gl680 (by decide +kernel)
                  have hM690 : NmM I676 R0 L678 a1 gQ := NmM.kpL hM684 gl680 hS685.1 ta1 (by decide +kernel)
                  rcases dj683 with ⟨p691, p692, p693, p694, p695, p696, p697, p698, p699, p700, p701, -⟩ | ⟨p702, p703, p704, p705, p706, p707, p708, p709, p710, p711, -⟩
                  · skip
                    rw [c687] at p694
                    rw [c527] at p694
                    obtain ⟨v712, c713⟩ : ∃ v, I676 a0 9 = v := ⟨_, rfl⟩
                    have b714 := iv15_9 hS685.1 ta0 c713
                    rw [c713] at p695
                    rw [c713] at p696
                    obtain ⟨v715, c716⟩ : ∃ v, I676 a0 10 = v := ⟨_, rfl⟩
                    have b717 := iv15_10 hS685.1 ta0 c716
                    rw [c716] at p697
                    obtain ⟨v718, c719⟩ : ∃ v, I676 a0 11 = v := ⟨_, rfl⟩
                    rw [c719] at p698
                    obtain ⟨y720, c721⟩ : ∃ v, L678 a0 15 = v := ⟨_, rfl⟩
                    rw [c721] at p699
                    obtain ⟨v722, c723⟩ : ∃ v, I676 a0 12 = v := ⟨_, rfl⟩
                    rw [c723] at p700
                    obtain ⟨v724, c725⟩ : ∃ v, I676 a0 8 = v := ⟨_, rfl⟩
                    have b726 := iv15_8 hS685.1 ta0 c725
                    rw [c725] at p701
                    refine q_if_eq 72 dX12_readTurner_65 (by decide) (fun h727 => ?_) (fun h727 => ?_)
                    · skip
                      exfalso; omega
                    · skip
                      refine q_iconst dX12_readTurner_68 (by decide) ?_
                      intro v728 h729
                      refine tr_goto 73 dX12_readTurner_69 (by decide) ?_
                      refine tr_istore_n dX12_readTurner_73 (by decide) (by decide) ?_
                      have kd730 : tkd gB (tkN gB (tkN gB gs)) = 3 := by simp [tkd, (show tkK gB (tkN gB (tkN gB gs)) = 1 by omega), (show tkW gB (tkN gB (tkN gB gs)) = 1490073635 by omega)]
                      have kd730x : tkd gB (tkN gB (tkN gB gs)) = v728.toInt := by omega
                      refine tr_iload_n dX12_readTurner_74 rfl ?_
                      refine q_iconst dX12_readTurner_75 (by decide) ?_
                      intro v731 h732
                      refine q_icmp_ne 84 dX12_readTurner_76 (by decide) (fun h733 => ?_) (fun h733 => ?_)
                      · skip
                        refine sf_tuL hE hZ hS685.1 (gB) (gs) (gQ) ta0 (by omega) (TxA.kp hT hS685 ta0 rfl rfl rfl (by decide +kernel) (by decide +kernel)) (fun b hb => (Option.some.inj (d2.symm.trans hb)) ▸ hM690) (by (try rw [c713]); first | done | with_reducible assumption | omega) (by (try rw [c713]); first | done | with_reducible assumption | omega) (by (try rw [c716]); first | done | with_reducible assumption | omega) (by (try rw [c719]); first | done | with_reducible assumption | omega) (by (try rw [c721]); first | done | assumption) (by (try rw [c723]); first | done | assumption) (by (try rw [c725]); first | done | assumption) (by (try rw [((hS685.cell ta0 (by decide +kernel)).trans c26)]); first | done | with_reducible assumption | omega) (fun q0 z0 => by obtain rfl := Option.some.inj ((d2).symm.trans z0); (try rw [((hS685.cell ta1 (by decide +kernel)).trans c30)]); first | done | with_reducible assumption | omega) (fun q0 z0 => by obtain rfl := Option.some.inj ((d2).symm.trans z0); (try rw [((hS685.cell ta1 (by decide +kernel)).trans c34)]); first | done | with_reducible assumption | omega) (fun q0 z0 => by obtain rfl := Option.some.inj ((d2).symm.trans z0); (try rw [((hS685.cell ta1 (by decide +kernel)).trans c38)]); first | done | with_reducible assumption | omega) (fun q0 z0 => by obtain rfl := Option.some.inj ((d2).symm.trans z0); (try rw [((hS685.cell ta1 (by decide +kernel)).trans c42)]); first | done | with_reducible assumption | omega) (fun q0 z0 => by obtain rfl := Option.some.inj ((d2).symm.trans z0); (try rw [c686]); first | done | with_reducible assumption | omega) (fun q0 z0 => by obtain rfl := Option.some.inj ((d2).symm.trans z0); (try rw [((hS685.cell ta1 (by decide +kernel)).trans c50)]); first | done | with_reducible assumption | omega) (fun q0 z0 => by obtain rfl := Option.some.inj ((d2).symm.trans z0); (try rw [((hS685.cell ta1 (by decide +kernel)).trans c54)]); first | done | with_reducible assumption | omega) (fun q0 z0 => by obtain rfl := Option.some.inj ((d2).symm.trans z0); (try rw [((hS685.cell ta1 (by decide +kernel)).trans c58)]); first | done | with_reducible assumption | omega) (by first | done | assumption) (by first | done | with_reducible assumption | omega) (by first | done | with_reducible assumption | omega) (by first | done | with_reducible assumption | omega) (by first | done | with_reducible assumption | omega) (by first | done | with_reducible assumption | omega) (by first | done | with_reducible assumption | omega) (by first | done | with_reducible assumption | omega) (by first | done | with_reducible assumption | omega) (by first | done | with_reducible assumption | omega) ⟨_, d2⟩ rfl rfl rfl ?_
                        rintro I734 R735 L736 ⟨g737, rp738, rp739, dj740, -⟩
                        obtain rfl : R0 = R735 := funext fun a => funext fun j => (g737.2.2 a j (wm_no rfl)).symm
                        have hS741 := hS685.tr g737 (by decide +kernel) (by decide +kernel)
                        have hO742 : FrO 14 a1 T I0 I734 := hO688.tr (rp739 _ d2)
                        rcases dj740 with ⟨p743, p744, p745, p746, p747, p748, p749, p750, p751, p752, p753, p754, p755, p756, p757, p758, p759, gl760, rp761, rp762, -⟩ | ⟨p763, p764, p765, p766, -⟩
                        · skip
                          have hL767 := hL689.tr gl760 (by decide +kernel)
                          have p768 := p744 _ d2
                          clear p744
                          rw [((hS741.cell ta1 (by decide +kernel)).trans c30)] at p768
                          have p769 := p745 _ d2
                          clear p745
                          rw [((hS741.cell ta1 (by decide +kernel)).trans c34)] at p769
                          have p770 := p746 _ d2
                          clear p746
                          rw [((hS741.cell ta1 (by decide +kernel)).trans c38)] at p770
                          have p771 := p747 _ d2
                          clear p747
                          rw [((hS741.cell ta1 (by decide +kernel)).trans c42)] at p771
                          obtain ⟨v772, c773⟩ : ∃ v, I734 a1 4 = v := ⟨_, rfl⟩
                          have b774 := iv14_4 hS741.1 ta1 c773
                          have p775 := p748 _ d2
                          clear p748
                          rw [c773] at p775
                          have p776 := p749 _ d2
                          clear p749
                          rw [((hS741.cell ta1 (by decide +kernel)).trans c50)] at p776
                          have p777 := p750 _ d2
                          clear p750
                          rw [((hS741.cell ta1 (by decide +kernel)).trans c54)] at p777
                          have p778 := p751 _ d2
                          clear p751
                          rw [((hS741.cell ta1 (by decide +kernel)).trans c58)] at p778
                          obtain ⟨v779, c780⟩ : ∃ v, I734 a0 13 = v := ⟨_, rfl⟩
                          rw [c780] at p752
                          rw [c687] at p752
                          obtain ⟨v781, c782⟩ : ∃ v, I734 a0 9 = v := ⟨_, rfl⟩
                          have b783 := iv15_9 hS741.1 ta0 c782
                          rw [c782] at p753
                          rw [c782] at p754
                          obtain ⟨v784, c785⟩ : ∃ v, I734 a0 10 = v := ⟨_, rfl⟩
                          have b786 := iv15_10 hS741.1 ta0 c785
                          rw [c785] at p755
                          obtain ⟨v787, c788⟩ : ∃ v, I734 a0 11 = v := ⟨_, rfl⟩
                          rw [c788] at p756
                          obtain ⟨y789, c790⟩ : ∃ v, L736 a0 15 = v := ⟨_, rfl⟩
                          rw [c790] at p757
                          obtain ⟨v791, c792⟩ : ∃ v, I734 a0 12 = v := ⟨_, rfl⟩
                          rw [c792] at p758
                          obtain ⟨v793, c794⟩ : ∃ v, I734 a0 8 = v := ⟨_, rfl⟩
                          have b795 := iv15_8 hS741.1 ta0 c794
                          rw [c794] at p759
                          obtain ⟨v796, c797⟩ : ∃ v, I734 a0 14 = v := ⟨_, rfl⟩
                          exact ⟨rfl, rfl, rfl, rfl, rfl, hS741, (fun b hb => (Option.some.inj (d2.symm.trans hb)) ▸ ((((((((FrM.rf (R := R0) (b := a1) (T := T)).st g83 (by decide +kernel)).st g146 (by decide +kernel)).st g199 (by decide +kernel)).st g359 (by decide +kernel)).st g519 (by decide +kernel)).st g679 (by decide +kernel)).tr (rp738 _ d2))), (fun dr hd => (Option.some.inj (d2.symm.trans hd)) ▸ hO742), (Or.inl ⟨(by first | done | with_reducible assumption | omega), (fun q0 z0 => by obtain rfl := Option.some.inj ((d2).symm.trans z0); (try rw [((hS741.cell ta1 (by decide +kernel)).trans c30)]); first | done | with_reducible assumption | omega), (fun q0 z0 => by obtain rfl := Option.some.inj ((d2).symm.trans z0); (try rw [((hS741.cell ta1 (by decide +kernel)).trans c34)]); first | done | with_reducible assumption | omega), (fun q0 z0 => by obtain rfl := Option.some.inj ((d2).symm.trans z0); (try rw [((hS741.cell ta1 (by decide +kernel)).trans c38)]); first | done | with_reducible assumption | omega), (fun q0 z0 => by obtain rfl := Option.some.inj ((d2).symm.trans z0); (try rw [((hS741.cell ta1 (by decide +kernel)).trans c42)]); first | done | with_reducible assumption | omega), (fun q0 z0 => by obtain rfl := Option.some.inj ((d2).symm.trans z0); (try rw [c773]); first | done | with_reducible assumption | omega), (fun q0 z0 => by obtain rfl := Option.some.inj ((d2).symm.trans z0); (try rw [((hS741.cell ta1 (by decide +kernel)).trans c50)]); first | done | with_reducible assumption | omega), (fun q0 z0 => by obtain rfl := Option.some.inj ((d2).symm.trans z0); (try rw [((hS741.cell ta1 (by decide +kernel)).trans c54)]); first | done | with_reducible assumption | omega), (fun q0 z0 => by obtain rfl := Option.some.inj ((d2).symm.trans z0); (try rw [((hS741.cell ta1 (by decide +kernel)).trans c58)]); first | done | with_reducible assumption | omega), (by (try rw [c780]); (try rw [c65]); first | done | with_reducible assumption | omega), (by (try rw [c782]); first | done | with_reducible assumption | omega), (by (try rw [c782]); first | done | with_reducible assumption | omega), (by (try rw [c785]); first | done | with_reducible assumption | omega), (by (try rw [c788]); first | done | with_reducible assumption | omega), (by (try rw [c790]); first | done | assumption), (by (try rw [c792]); first | done | assumption), (by (try rw [c794]); first | done | assumption), hL767, rp761, (fun E b hb hE => by obtain rfl := Option.some.inj (d2.symm.trans hb); exact rp762 _ _ d2 (AlM.kp hE hW0 ta1 ((g679.cell ta1 (wm_no (by decide +kernel))).trans ((g519.cell ta1 (wm_no (by decide +kernel))).trans ((g359.cell ta1 (wm_no (by decide +kernel))).trans ((g199.cell ta1 (wm_no (by decide +kernel))).trans ((g146.cell ta1 (wm_no (by decide +kernel))).trans (g83.cell ta1 (wm_no (by decide +kernel)))))))) (((((((RoF.rf (ex := rdm) (T := T)).tr (RoF.st g83 (by decide +kernel))).tr (RoF.st g146 (by decide +kernel))).tr (RoF.st g199 (by decide +kernel))).tr (RoF.st g359 (by decide +kernel))).tr (RoF.st g519 (by decide +kernel))).tr (RoF.st g679 (by decide +kernel))))), trivial⟩), trivial⟩
                        · skip
                          obtain ⟨v798, c799⟩ : ∃ v, I734 a0 9 = v := ⟨_, rfl⟩
                          have b800 := iv15_9 hS741.1 ta0 c799
                          rw [c799] at p764
                          obtain ⟨v801, c802⟩ : ∃ v, I734 a0 13 = v := ⟨_, rfl⟩
                          rw [c802] at p765
                          obtain ⟨v803, c804⟩ : ∃ v, I734 a0 14 = v := ⟨_, rfl⟩
                          rw [c804] at p766
                          obtain ⟨v805, c806⟩ : ∃ v, I734 a1 4 = v := ⟨_, rfl⟩
                          have b807 := iv14_4 hS741.1 ta1 c806
                          obtain ⟨v808, c809⟩ : ∃ v, I734 a0 10 = v := ⟨_, rfl⟩
                          have b810 := iv15_10 hS741.1 ta0 c809
                          obtain ⟨v811, c812⟩ : ∃ v, I734 a0 11 = v := ⟨_, rfl⟩
                          obtain ⟨y813, c814⟩ : ∃ v, L736 a0 15 = v := ⟨_, rfl⟩
                          obtain ⟨v815, c816⟩ : ∃ v, I734 a0 12 = v := ⟨_, rfl⟩
                          obtain ⟨v817, c818⟩ : ∃ v, I734 a0 8 = v := ⟨_, rfl⟩
                          have b819 := iv15_8 hS741.1 ta0 c818
                          exact ⟨rfl, rfl, rfl, rfl, rfl, hS741, (fun b hb => (Option.some.inj (d2.symm.trans hb)) ▸ ((((((((FrM.rf (R := R0) (b := a1) (T := T)).st g83 (by decide +kernel)).st g146 (by decide +kernel)).st g199 (by decide +kernel)).st g359 (by decide +kernel)).st g519 (by decide +kernel)).st g679 (by decide +kernel)).tr (rp738 _ d2))), (fun dr hd => (Option.some.inj (d2.symm.trans hd)) ▸ hO742), (Or.inr (⟨(by first | done | with_reducible assumption | omega), (by (try rw [c799]); first | done | with_reducible assumption | omega), (by (try rw [c802]); first | done | with_reducible assumption | omega), (by (try rw [c804]); first | done | with_reducible assumption | omega), trivial⟩)), trivial⟩
                      · skip
                        exfalso; omega
                  · skip
                    rw [c687] at p704
                    rw [c527] at p704
                    obtain ⟨v820, c821⟩ : ∃ v, I676 a0 9 = v := ⟨_, rfl⟩
                    have b822 := iv15_9 hS685.1 ta0 c821
                    rw [c821] at p705
                    rw [c821] at p706
                    obtain ⟨v823, c824⟩ : ∃ v, I676 a0 10 = v := ⟨_, rfl⟩
                    have b825 := iv15_10 hS685.1 ta0 c824
                    rw [c824] at p707
                    obtain ⟨v826, c827⟩ : ∃ v, I676 a0 11 = v := ⟨_, rfl⟩
                    rw [c827] at p708
                    obtain ⟨y828, c829⟩ : ∃ v, L678 a0 15 = v := ⟨_, rfl⟩
                    rw [c829] at p709
                    obtain ⟨v830, c831⟩ : ∃ v, I676 a0 12 = v := ⟨_, rfl⟩
                    rw [c831] at p710
                    obtain ⟨v832, c833⟩ : ∃ v, I676 a0 8 = v := ⟨_, rfl⟩
                    have b834 := iv15_8 hS685.1 ta0 c833
                    rw [c833] at p711
                    refine q_if_eq 72 dX12_readTurner_65 (by decide) (fun h835 => ?_) (fun h835 => ?_)
                    · skip
                      refine q_iconst dX12_readTurner_72 (by decide) ?_
                      intro v836 h837
                      refine tr_istore_n dX12_readTurner_73 (by decide) (by decide) ?_
                      have kd838 : tkd gB (tkN gB (tkN gB gs)) = -1 := tkd_no p223 p383 p543 p703
                      have kd838x : tkd gB (tkN gB (tkN gB gs)) = v836.toInt := by omega
                      refine tr_iload_n dX12_readTurner_74 rfl ?_
                      refine q_iconst dX12_readTurner_75 (by decide) ?_
                      intro v839 h840
                      refine q_icmp_ne 84 dX12_readTurner_76 (by decide) (fun h841 => ?_) (fun h841 => ?_)
                      · skip
                        exfalso; omega
                      · skip
                        replace hF := hF.pos (by omega)
                        replace hP := hP.pos (by omega)
                        refine tr_aload_n dX12_readTurner_79 rfl ?_
                        refine q_iconst dX12_readTurner_80 (by decide) ?_
                        intro v842 h843
                        refine q_callVv hE (M' := mX12_flaw) (as := [_]) dX12_readTurner_81 lk12_145 inX12_flaw seX12_flaw myX12_flaw (by decide) ⟨by decide, by decide⟩ rfl (kR15 hS685.1 ta0) (Nat.le_of_ble_eq_true rfl) rfl rfl (by decide) (by decide) (fk_X12_flaw hS685.1  ta0 (by omega) (by (try rw [c821]); first | done | with_reducible assumption | omega)) ?_
                        rintro cn' K' N' I844 R845 L846 ⟨rfl, rfl, rfl, rfl, rfl, g847, p850, p851, p852, -⟩
                        have hM853 : NmM I844 R0 L678 a1 gQ := NmM.kpS hM690 g847 hS685.1 ta1 (by decide +kernel) (by decide +kernel)
                        have hS854 := hS685.tr g847 (by decide +kernel) (by decide +kernel)
                        have c855 : I844 a1 4 = v45 := (g847.cell ta1 (by decide +kernel)).trans c686
                        have c856 : I844 a0 10 = v823 := (g847.cell ta0 (by decide +kernel)).trans c824
                        have c857 : I844 a0 11 = v826 := (g847.cell ta0 (by decide +kernel)).trans c827
                        have c858 : I844 a0 12 = v830 := (g847.cell ta0 (by decide +kernel)).trans c831
                        have c859 : I844 a0 8 = v832 := (g847.cell ta0 (by decide +kernel)).trans c833
                        have hO860 : FrO 14 a1 T I0 I844 := hO688.st g847 (by decide +kernel)
                        obtain ⟨v861, c862⟩ : ∃ v, I844 a0 9 = v := ⟨_, rfl⟩
                        have b863 := iv15_9 hS854.1 ta0 c862
                        rw [c862] at p850
                        obtain ⟨v864, c865⟩ : ∃ v, I844 a0 13 = v := ⟨_, rfl⟩
                        rw [c865] at p851
                        obtain ⟨v866, c867⟩ : ∃ v, I844 a0 14 = v := ⟨_, rfl⟩
                        rw [c867] at p852
                        rw [c824] at p852
                        refine sf_tuO hE hZ hS854.1 (gB) ta0 (by (try rw [c862]); first | done | with_reducible assumption | omega) ⟨_, d2⟩ rfl rfl rfl ?_
                        rintro I868 R869 L870 ⟨g871, p872, p873, p874, -⟩
                        obtain rfl : R0 = R869 := funext fun a => funext fun j => (g871.2.2 a j (wm_no rfl)).symm
                        have hS875 := hS854.tr g871 (by decide +kernel) (by decide +kernel)
                        have c876 : I868 a1 4 = v45 := (g871.cell ta1 (by decide +kernel)).trans c855
                        have hO877 : FrO 14 a1 T I0 I868 := hO860.st g871 (by decide +kernel)
                        obtain ⟨v878, c879⟩ : ∃ v, I868 a0 9 = v := ⟨_, rfl⟩
                        have b880 := iv15_9 hS875.1 ta0 c879
                        rw [c879] at p872
                        obtain ⟨v881, c882⟩ : ∃ v, I868 a0 13 = v := ⟨_, rfl⟩
                        rw [c882] at p873
                        rw [c865] at p873
                        obtain ⟨v883, c884⟩ : ∃ v, I868 a0 14 = v := ⟨_, rfl⟩
                        rw [c884] at p874
                        rw [c867] at p874
                        have eF := hF.eq
                        have eP := hP.eq
                        obtain ⟨v885, c886⟩ : ∃ v, I868 a0 10 = v := ⟨_, rfl⟩
                        have b887 := iv15_10 hS875.1 ta0 c886
                        obtain ⟨v888, c889⟩ : ∃ v, I868 a0 11 = v := ⟨_, rfl⟩
                        obtain ⟨y890, c891⟩ : ∃ v, L870 a0 15 = v := ⟨_, rfl⟩
                        obtain ⟨v892, c893⟩ : ∃ v, I868 a0 12 = v := ⟨_, rfl⟩
                        obtain ⟨v894, c895⟩ : ∃ v, I868 a0 8 = v := ⟨_, rfl⟩
                        have b896 := iv15_8 hS875.1 ta0 c895
                        exact ⟨rfl, rfl, rfl, rfl, rfl, hS875, (fun b hb => (Option.some.inj (d2.symm.trans hb)) ▸ (((((((((FrM.rf (R := R0) (b := a1) (T := T)).st g83 (by decide +kernel)).st g146 (by decide +kernel)).st g199 (by decide +kernel)).st g359 (by decide +kernel)).st g519 (by decide +kernel)).st g679 (by decide +kernel)).st g847 (by decide +kernel)).st g871 (by decide +kernel))), (fun dr hd => (Option.some.inj (d2.symm.trans hd)) ▸ hO877), (Or.inr (⟨(by first | done | with_reducible assumption | omega), (by (try rw [c879]); first | done | with_reducible assumption | omega), (by (try rw [c882]); first | done | with_reducible assumption | omega), (by (try rw [c884]); first | done | with_reducible assumption | omega), trivial⟩)), trivial⟩
                    · skip
                      exfalso; omega
                · skip
                  exfalso; omega
            · skip
              exfalso; omega
        · skip
          exfalso; omega
    · skip
      obtain ⟨v897, c898⟩ : ∃ v, I143 a0 9 = v := ⟨_, rfl⟩
      have b899 := iv15_9 hS151.1 ta0 c898
      rw [c898] at p169
      obtain ⟨v900, c901⟩ : ∃ v, I143 a0 13 = v := ⟨_, rfl⟩
      rw [c901] at p170
      obtain ⟨v902, c903⟩ : ∃ v, I143 a0 14 = v := ⟨_, rfl⟩
      rw [c903] at p171
      replace hF := hF.pos (by omega)
      replace hP := hP.pos (by omega)
      refine tr_lstore_n dX12_readTurner_16 (by decide) (by decide) (by decide) ?_
      refine tr_aload_n dX12_readTurner_17 rfl ?_
      refine tr_ldcwS dX12_readTurner_18 ld12_318 ?_
      refine q_callVi hE (M' := mX12_eatsWord) (as := [_]) dX12_readTurner_21 lk12_290 inX12_eatsWord seX12_eatsWord myX12_eatsWord (by decide) ⟨by decide, by decide⟩ rfl (kR15 hS151.1 ta0) (Nat.le_of_ble_eq_true rfl) rfl rfl (by decide) (by decide) (k_X12_eatsWord hS151.1 ta0 (by decide)) ?_
      rintro v908 cn' K' N' I904 R905 L906 ⟨rfl, rfl, rfl, rfl, g907, h909, w910, -⟩
      have hS911 := hS151.tr g907 (by decide +kernel) (by decide +kernel)
      have c912 : I904 a1 4 = v45 := (g907.cell ta1 (by decide +kernel)).trans c152
      have c913 : I904 a0 13 = v900 := (g907.cell ta0 (by decide +kernel)).trans c901
      have c914 : I904 a0 14 = v902 := (g907.cell ta0 (by decide +kernel)).trans c903
      have hO915 : FrO 14 a1 T I0 I904 := hO153.st g907 (by decide +kernel)
      have ov916 := w910.over (by rw [c898]; omega)
      obtain ⟨v917, c918⟩ : ∃ v, I904 a0 9 = v := ⟨_, rfl⟩
      have b919 := iv15_9 hS911.1 ta0 c918
      obtain ⟨v920, c921⟩ : ∃ v, I904 a0 13 = v := ⟨_, rfl⟩
      obtain ⟨v922, c923⟩ : ∃ v, I904 a0 14 = v := ⟨_, rfl⟩
      (try rw [c918] at ov916)
      (try rw [c921] at ov916)
      (try rw [c923] at ov916)
      (try rw [c898] at ov916)
      (try rw [c901] at ov916)
      (try rw [c903] at ov916)
      refine q_if_eq 31 dX12_readTurner_24 (by decide) (fun h924 => ?_) (fun h924 => ?_)
      · skip
        refine tr_aload_n dX12_readTurner_31 rfl ?_
        refine tr_ldcwS dX12_readTurner_32 ld12_320 ?_
        refine q_callVi hE (M' := mX12_eatsWord) (as := [_]) dX12_readTurner_35 lk12_290 inX12_eatsWord seX12_eatsWord myX12_eatsWord (by decide) ⟨by decide, by decide⟩ rfl (kR15 hS911.1 ta0) (Nat.le_of_ble_eq_true rfl) rfl rfl (by decide) (by decide) (k_X12_eatsWord hS911.1 ta0 (by decide)) ?_
        rintro v929 cn' K' N' I925 R926 L927 ⟨rfl, rfl, rfl, rfl, g928, h930, w931, -⟩
        have hS932 := hS911.tr g928 (by decide +kernel) (by decide +kernel)
        have c933 : I925 a1 4 = v45 := (g928.cell ta1 (by decide +kernel)).trans c912
        have c934 : I925 a0 13 = v920 := (g928.cell ta0 (by decide +kernel)).trans c921
        have c935 : I925 a0 14 = v922 := (g928.cell ta0 (by decide +kernel)).trans c923
        have hO936 : FrO 14 a1 T I0 I925 := hO915.st g928 (by decide +kernel)
        have ov937 := w931.over (by rw [c918]; omega)
        obtain ⟨v938, c939⟩ : ∃ v, I925 a0 9 = v := ⟨_, rfl⟩
        have b940 := iv15_9 hS932.1 ta0 c939
        obtain ⟨v941, c942⟩ : ∃ v, I925 a0 13 = v := ⟨_, rfl⟩
        obtain ⟨v943, c944⟩ : ∃ v, I925 a0 14 = v := ⟨_, rfl⟩
        (try rw [c939] at ov937)
        (try rw [c942] at ov937)
        (try rw [c944] at ov937)
        (try rw [c918] at ov937)
        (try rw [c921] at ov937)
        (try rw [c923] at ov937)
        refine q_if_eq 45 dX12_readTurner_38 (by decide) (fun h945 => ?_) (fun h945 => ?_)
        · skip
          refine tr_aload_n dX12_readTurner_45 rfl ?_
          refine tr_ldcwS dX12_readTurner_46 ld12_322 ?_
          refine q_callVi hE (M' := mX12_eatsWord) (as := [_]) dX12_readTurner_49 lk12_290 inX12_eatsWord seX12_eatsWord myX12_eatsWord (by decide) ⟨by decide, by decide⟩ rfl (kR15 hS932.1 ta0) (Nat.le_of_ble_eq_true rfl) rfl rfl (by decide) (by decide) (k_X12_eatsWord hS932.1 ta0 (by decide)) ?_
          rintro v950 cn' K' N' I946 R947 L948 ⟨rfl, rfl, rfl, rfl, g949, h951, w952, -⟩
          have hS953 := hS932.tr g949 (by decide +kernel) (by decide +kernel)
          have c954 : I946 a1 4 = v45 := (g949.cell ta1 (by decide +kernel)).trans c933
          have c955 : I946 a0 13 = v941 := (g949.cell ta0 (by decide +kernel)).trans c942
          have c956 : I946 a0 14 = v943 := (g949.cell ta0 (by decide +kernel)).trans c944
          have hO957 : FrO 14 a1 T I0 I946 := hO936.st g949 (by decide +kernel)
          have ov958 := w952.over (by rw [c939]; omega)
          obtain ⟨v959, c960⟩ : ∃ v, I946 a0 9 = v := ⟨_, rfl⟩
          have b961 := iv15_9 hS953.1 ta0 c960
          obtain ⟨v962, c963⟩ : ∃ v, I946 a0 13 = v := ⟨_, rfl⟩
          obtain ⟨v964, c965⟩ : ∃ v, I946 a0 14 = v := ⟨_, rfl⟩
          (try rw [c960] at ov958)
          (try rw [c963] at ov958)
          (try rw [c965] at ov958)
          (try rw [c939] at ov958)
          (try rw [c942] at ov958)
          (try rw [c944] at ov958)
          refine q_if_eq 59 dX12_readTurner_52 (by decide) (fun h966 => ?_) (fun h966 => ?_)
          · skip
            refine tr_aload_n dX12_readTurner_59 rfl ?_
            refine tr_ldcS dX12_readTurner_60 ld12_178 ?_
            refine q_callVi hE (M' := mX12_eatsWord) (as := [_]) dX12_readTurner_62 lk12_290 inX12_eatsWord seX12_eatsWord myX12_eatsWord (by decide) ⟨by decide, by decide⟩ rfl (kR15 hS953.1 ta0) (Nat.le_of_ble_eq_true rfl) rfl rfl (by decide) (by decide) (k_X12_eatsWord hS953.1 ta0 (by decide)) ?_
            rintro v971 cn' K' N' I967 R968 L969 ⟨rfl, rfl, rfl, rfl, g970, h972, w973, -⟩
            have hS974 := hS953.tr g970 (by decide +kernel) (by decide +kernel)
            have c975 : I967 a1 4 = v45 := (g970.cell ta1 (by decide +kernel)).trans c954
            have c976 : I967 a0 13 = v962 := (g970.cell ta0 (by decide +kernel)).trans c963
            have c977 : I967 a0 14 = v964 := (g970.cell ta0 (by decide +kernel)).trans c965
            have hO978 : FrO 14 a1 T I0 I967 := hO957.st g970 (by decide +kernel)
            have ov979 := w973.over (by rw [c960]; omega)
            obtain ⟨v980, c981⟩ : ∃ v, I967 a0 9 = v := ⟨_, rfl⟩
            have b982 := iv15_9 hS974.1 ta0 c981
            obtain ⟨v983, c984⟩ : ∃ v, I967 a0 13 = v := ⟨_, rfl⟩
            obtain ⟨v985, c986⟩ : ∃ v, I967 a0 14 = v := ⟨_, rfl⟩
            (try rw [c981] at ov979)
            (try rw [c984] at ov979)
            (try rw [c986] at ov979)
            (try rw [c960] at ov979)
            (try rw [c963] at ov979)
            (try rw [c965] at ov979)
            refine q_if_eq 72 dX12_readTurner_65 (by decide) (fun h987 => ?_) (fun h987 => ?_)
            · skip
              refine q_iconst dX12_readTurner_72 (by decide) ?_
              intro v988 h989
              refine tr_istore_n dX12_readTurner_73 (by decide) (by decide) ?_
              refine tr_iload_n dX12_readTurner_74 rfl ?_
              refine q_iconst dX12_readTurner_75 (by decide) ?_
              intro v990 h991
              refine q_icmp_ne 84 dX12_readTurner_76 (by decide) (fun h992 => ?_) (fun h992 => ?_)
              · skip
                exfalso; omega
              · skip
                refine tr_aload_n dX12_readTurner_79 rfl ?_
                refine q_iconst dX12_readTurner_80 (by decide) ?_
                intro v993 h994
                obtain ⟨v995, c996⟩ : ∃ v, I967 a0 8 = v := ⟨_, rfl⟩
                have b997 := iv15_8 hS974.1 ta0 c996
                refine q_callVv hE (M' := mX12_flaw) (as := [_]) dX12_readTurner_81 lk12_145 inX12_flaw seX12_flaw myX12_flaw (by decide) ⟨by decide, by decide⟩ rfl (kR15 hS974.1 ta0) (Nat.le_of_ble_eq_true rfl) rfl rfl (by decide) (by decide) (k_X12_flaw hS974.1 ta0 (by omega)) ?_
                rintro cn' K' N' I998 R999 L1000 ⟨rfl, rfl, rfl, rfl, rfl, g1001, p1003, p1004, w1005, -⟩
                have hS1006 := hS974.tr g1001 (by decide +kernel) (by decide +kernel)
                have c1007 : I998 a1 4 = v45 := (g1001.cell ta1 (by decide +kernel)).trans c975
                have c1008 : I998 a0 8 = v995 := (g1001.cell ta0 (by decide +kernel)).trans c996
                obtain ⟨v1009, c1010⟩ : ∃ v, I998 a0 9 = v := ⟨_, rfl⟩
                have b1011 := iv15_9 hS1006.1 ta0 c1010
                rw [c1010] at p1003
                rw [c1008] at p1004
                rw [c996] at p1004
                have hO1012 : FrO 14 a1 T I0 I998 := hO978.st g1001 (by decide +kernel)
                have ov1013 := w1005.over (by rw [c981]; omega)
                obtain ⟨v1014, c1015⟩ : ∃ v, I998 a0 9 = v := ⟨_, rfl⟩
                have b1016 := iv15_9 hS1006.1 ta0 c1015
                obtain ⟨v1017, c1018⟩ : ∃ v, I998 a0 13 = v := ⟨_, rfl⟩
                obtain ⟨v1019, c1020⟩ : ∃ v, I998 a0 14 = v := ⟨_, rfl⟩
                (try rw [c1015] at ov1013)
                (try rw [c1018] at ov1013)
                (try rw [c1020] at ov1013)
                (try rw [c981] at ov1013)
                (try rw [c984] at ov1013)
                (try rw [c986] at ov1013)
                refine sf_tuO hE hZ hS1006.1 (gB) ta0 (by (try rw [c1015]); first | done | with_reducible assumption | omega) ⟨_, d2⟩ rfl rfl rfl ?_
                rintro I1021 R1022 L1023 ⟨g1024, p1025, p1026, p1027, -⟩
                obtain rfl : R0 = R1022 := funext fun a => funext fun j => (g1024.2.2 a j (wm_no rfl)).symm
                have hS1028 := hS1006.tr g1024 (by decide +kernel) (by decide +kernel)
                have c1029 : I1021 a1 4 = v45 := (g1024.cell ta1 (by decide +kernel)).trans c1007
                have hO1030 : FrO 14 a1 T I0 I1021 := hO1012.st g1024 (by decide +kernel)
                obtain ⟨v1031, c1032⟩ : ∃ v, I1021 a0 9 = v := ⟨_, rfl⟩
                have b1033 := iv15_9 hS1028.1 ta0 c1032
                rw [c1032] at p1025
                obtain ⟨v1034, c1035⟩ : ∃ v, I1021 a0 13 = v := ⟨_, rfl⟩
                rw [c1035] at p1026
                rw [c1018] at p1026
                obtain ⟨v1036, c1037⟩ : ∃ v, I1021 a0 14 = v := ⟨_, rfl⟩
                rw [c1037] at p1027
                rw [c1020] at p1027
                have eF := hF.eq
                have eP := hP.eq
                obtain ⟨v1038, c1039⟩ : ∃ v, I1021 a0 10 = v := ⟨_, rfl⟩
                have b1040 := iv15_10 hS1028.1 ta0 c1039
                obtain ⟨v1041, c1042⟩ : ∃ v, I1021 a0 11 = v := ⟨_, rfl⟩
                obtain ⟨y1043, c1044⟩ : ∃ v, L1023 a0 15 = v := ⟨_, rfl⟩
                obtain ⟨v1045, c1046⟩ : ∃ v, I1021 a0 12 = v := ⟨_, rfl⟩
                obtain ⟨v1047, c1048⟩ : ∃ v, I1021 a0 8 = v := ⟨_, rfl⟩
                have b1049 := iv15_8 hS1028.1 ta0 c1048
                exact ⟨rfl, rfl, rfl, rfl, rfl, hS1028, (fun b hb => (Option.some.inj (d2.symm.trans hb)) ▸ (((((((((FrM.rf (R := R0) (b := a1) (T := T)).st g83 (by decide +kernel)).st g146 (by decide +kernel)).st g907 (by decide +kernel)).st g928 (by decide +kernel)).st g949 (by decide +kernel)).st g970 (by decide +kernel)).st g1001 (by decide +kernel)).st g1024 (by decide +kernel))), (fun dr hd => (Option.some.inj (d2.symm.trans hd)) ▸ hO1030), (Or.inr (⟨(by first | done | with_reducible assumption | omega), (by (try rw [c1032]); first | done | with_reducible assumption | omega), (by (try rw [c1035]); first | done | with_reducible assumption | omega), (by (try rw [c1037]); first | done | with_reducible assumption | omega), trivial⟩)), trivial⟩
            · skip
              refine q_iconst dX12_readTurner_68 (by decide) ?_
              intro v1050 h1051
              refine tr_goto 73 dX12_readTurner_69 (by decide) ?_
              refine tr_istore_n dX12_readTurner_73 (by decide) (by decide) ?_
              refine tr_iload_n dX12_readTurner_74 rfl ?_
              refine q_iconst dX12_readTurner_75 (by decide) ?_
              intro v1052 h1053
              refine q_icmp_ne 84 dX12_readTurner_76 (by decide) (fun h1054 => ?_) (fun h1054 => ?_)
              · skip
                refine sf_tuO hE hZ hS974.1 (gB) ta0 (by (try rw [c981]); first | done | with_reducible assumption | omega) ⟨_, d2⟩ rfl rfl rfl ?_
                rintro I1055 R1056 L1057 ⟨g1058, p1059, p1060, p1061, -⟩
                obtain rfl : R0 = R1056 := funext fun a => funext fun j => (g1058.2.2 a j (wm_no rfl)).symm
                have hS1062 := hS974.tr g1058 (by decide +kernel) (by decide +kernel)
                have c1063 : I1055 a1 4 = v45 := (g1058.cell ta1 (by decide +kernel)).trans c975
                have hO1064 : FrO 14 a1 T I0 I1055 := hO978.st g1058 (by decide +kernel)
                obtain ⟨v1065, c1066⟩ : ∃ v, I1055 a0 9 = v := ⟨_, rfl⟩
                have b1067 := iv15_9 hS1062.1 ta0 c1066
                rw [c1066] at p1059
                obtain ⟨v1068, c1069⟩ : ∃ v, I1055 a0 13 = v := ⟨_, rfl⟩
                rw [c1069] at p1060
                rw [c984] at p1060
                obtain ⟨v1070, c1071⟩ : ∃ v, I1055 a0 14 = v := ⟨_, rfl⟩
                rw [c1071] at p1061
                rw [c986] at p1061
                have eF := hF.eq
                have eP := hP.eq
                obtain ⟨v1072, c1073⟩ : ∃ v, I1055 a0 10 = v := ⟨_, rfl⟩
                have b1074 := iv15_10 hS1062.1 ta0 c1073
                obtain ⟨v1075, c1076⟩ : ∃ v, I1055 a0 11 = v := ⟨_, rfl⟩
                obtain ⟨y1077, c1078⟩ : ∃ v, L1057 a0 15 = v := ⟨_, rfl⟩
                obtain ⟨v1079, c1080⟩ : ∃ v, I1055 a0 12 = v := ⟨_, rfl⟩
                obtain ⟨v1081, c1082⟩ : ∃ v, I1055 a0 8 = v := ⟨_, rfl⟩
                have b1083 := iv15_8 hS1062.1 ta0 c1082
                exact ⟨rfl, rfl, rfl, rfl, rfl, hS1062, (fun b hb => (Option.some.inj (d2.symm.trans hb)) ▸ ((((((((FrM.rf (R := R0) (b := a1) (T := T)).st g83 (by decide +kernel)).st g146 (by decide +kernel)).st g907 (by decide +kernel)).st g928 (by decide +kernel)).st g949 (by decide +kernel)).st g970 (by decide +kernel)).st g1058 (by decide +kernel))), (fun dr hd => (Option.some.inj (d2.symm.trans hd)) ▸ hO1064), (Or.inr (⟨(by first | done | with_reducible assumption | omega), (by (try rw [c1066]); first | done | with_reducible assumption | omega), (by (try rw [c1069]); first | done | with_reducible assumption | omega), (by (try rw [c1071]); first | done | with_reducible assumption | omega), trivial⟩)), trivial⟩
              · skip
                exfalso; omega
          · skip
            refine q_iconst dX12_readTurner_55 (by decide) ?_
            intro v1084 h1085
            refine tr_goto 73 dX12_readTurner_56 (by decide) ?_
            refine tr_istore_n dX12_readTurner_73 (by decide) (by decide) ?_
            refine tr_iload_n dX12_readTurner_74 rfl ?_
            refine q_iconst dX12_readTurner_75 (by decide) ?_
            intro v1086 h1087
            refine q_icmp_ne 84 dX12_readTurner_76 (by decide) (fun h1088 => ?_) (fun h1088 => ?_)
            · skip
              refine sf_tuO hE hZ hS953.1 (gB) ta0 (by (try rw [c960]); first | done | with_reducible assumption | omega) ⟨_, d2⟩ rfl rfl rfl ?_
              rintro I1089 R1090 L1091 ⟨g1092, p1093, p1094, p1095, -⟩
              obtain rfl : R0 = R1090 := funext fun a => funext fun j => (g1092.2.2 a j (wm_no rfl)).symm
              have hS1096 := hS953.tr g1092 (by decide +kernel) (by decide +kernel)
              have c1097 : I1089 a1 4 = v45 := (g1092.cell ta1 (by decide +kernel)).trans c954
              have hO1098 : FrO 14 a1 T I0 I1089 := hO957.st g1092 (by decide +kernel)
              obtain ⟨v1099, c1100⟩ : ∃ v, I1089 a0 9 = v := ⟨_, rfl⟩
              have b1101 := iv15_9 hS1096.1 ta0 c1100
              rw [c1100] at p1093
              obtain ⟨v1102, c1103⟩ : ∃ v, I1089 a0 13 = v := ⟨_, rfl⟩
              rw [c1103] at p1094
              rw [c963] at p1094
              obtain ⟨v1104, c1105⟩ : ∃ v, I1089 a0 14 = v := ⟨_, rfl⟩
              rw [c1105] at p1095
              rw [c965] at p1095
              have eF := hF.eq
              have eP := hP.eq
              obtain ⟨v1106, c1107⟩ : ∃ v, I1089 a0 10 = v := ⟨_, rfl⟩
              have b1108 := iv15_10 hS1096.1 ta0 c1107
              obtain ⟨v1109, c1110⟩ : ∃ v, I1089 a0 11 = v := ⟨_, rfl⟩
              obtain ⟨y1111, c1112⟩ : ∃ v, L1091 a0 15 = v := ⟨_, rfl⟩
              obtain ⟨v1113, c1114⟩ : ∃ v, I1089 a0 12 = v := ⟨_, rfl⟩
              obtain ⟨v1115, c1116⟩ : ∃ v, I1089 a0 8 = v := ⟨_, rfl⟩
              have b1117 := iv15_8 hS1096.1 ta0 c1116
              exact ⟨rfl, rfl, rfl, rfl, rfl, hS1096, (fun b hb => (Option.some.inj (d2.symm.trans hb)) ▸ (((((((FrM.rf (R := R0) (b := a1) (T := T)).st g83 (by decide +kernel)).st g146 (by decide +kernel)).st g907 (by decide +kernel)).st g928 (by decide +kernel)).st g949 (by decide +kernel)).st g1092 (by decide +kernel))), (fun dr hd => (Option.some.inj (d2.symm.trans hd)) ▸ hO1098), (Or.inr (⟨(by first | done | with_reducible assumption | omega), (by (try rw [c1100]); first | done | with_reducible assumption | omega), (by (try rw [c1103]); first | done | with_reducible assumption | omega), (by (try rw [c1105]); first | done | with_reducible assumption | omega), trivial⟩)), trivial⟩
            · skip
              exfalso; omega
        · skip
          refine q_iconst dX12_readTurner_41 (by decide) ?_
          intro v1118 h1119
          refine tr_goto 73 dX12_readTurner_42 (by decide) ?_
          refine tr_istore_n dX12_readTurner_73 (by decide) (by decide) ?_
          refine tr_iload_n dX12_readTurner_74 rfl ?_
          refine q_iconst dX12_readTurner_75 (by decide) ?_
          intro v1120 h1121
          refine q_icmp_ne 84 dX12_readTurner_76 (by decide) (fun h1122 => ?_) (fun h1122 => ?_)
          · skip
            refine sf_tuO hE hZ hS932.1 (gB) ta0 (by (try rw [c939]); first | done | with_reducible assumption | omega) ⟨_, d2⟩ rfl rfl rfl ?_
            rintro I1123 R1124 L1125 ⟨g1126, p1127, p1128, p1129, -⟩
            obtain rfl : R0 = R1124 := funext fun a => funext fun j => (g1126.2.2 a j (wm_no rfl)).symm
            have hS1130 := hS932.tr g1126 (by decide +kernel) (by decide +kernel)
            have c1131 : I1123 a1 4 = v45 := (g1126.cell ta1 (by decide +kernel)).trans c933
            have hO1132 : FrO 14 a1 T I0 I1123 := hO936.st g1126 (by decide +kernel)
            obtain ⟨v1133, c1134⟩ : ∃ v, I1123 a0 9 = v := ⟨_, rfl⟩
            have b1135 := iv15_9 hS1130.1 ta0 c1134
            rw [c1134] at p1127
            obtain ⟨v1136, c1137⟩ : ∃ v, I1123 a0 13 = v := ⟨_, rfl⟩
            rw [c1137] at p1128
            rw [c942] at p1128
            obtain ⟨v1138, c1139⟩ : ∃ v, I1123 a0 14 = v := ⟨_, rfl⟩
            rw [c1139] at p1129
            rw [c944] at p1129
            have eF := hF.eq
            have eP := hP.eq
            obtain ⟨v1140, c1141⟩ : ∃ v, I1123 a0 10 = v := ⟨_, rfl⟩
            have b1142 := iv15_10 hS1130.1 ta0 c1141
            obtain ⟨v1143, c1144⟩ : ∃ v, I1123 a0 11 = v := ⟨_, rfl⟩
            obtain ⟨y1145, c1146⟩ : ∃ v, L1125 a0 15 = v := ⟨_, rfl⟩
            obtain ⟨v1147, c1148⟩ : ∃ v, I1123 a0 12 = v := ⟨_, rfl⟩
            obtain ⟨v1149, c1150⟩ : ∃ v, I1123 a0 8 = v := ⟨_, rfl⟩
            have b1151 := iv15_8 hS1130.1 ta0 c1150
            exact ⟨rfl, rfl, rfl, rfl, rfl, hS1130, (fun b hb => (Option.some.inj (d2.symm.trans hb)) ▸ ((((((FrM.rf (R := R0) (b := a1) (T := T)).st g83 (by decide +kernel)).st g146 (by decide +kernel)).st g907 (by decide +kernel)).st g928 (by decide +kernel)).st g1126 (by decide +kernel))), (fun dr hd => (Option.some.inj (d2.symm.trans hd)) ▸ hO1132), (Or.inr (⟨(by first | done | with_reducible assumption | omega), (by (try rw [c1134]); first | done | with_reducible assumption | omega), (by (try rw [c1137]); first | done | with_reducible assumption | omega), (by (try rw [c1139]); first | done | with_reducible assumption | omega), trivial⟩)), trivial⟩
          · skip
            exfalso; omega
      · skip
        refine q_iconst dX12_readTurner_27 (by decide) ?_
        intro v1152 h1153
        refine tr_goto 73 dX12_readTurner_28 (by decide) ?_
        refine tr_istore_n dX12_readTurner_73 (by decide) (by decide) ?_
        refine tr_iload_n dX12_readTurner_74 rfl ?_
        refine q_iconst dX12_readTurner_75 (by decide) ?_
        intro v1154 h1155
        refine q_icmp_ne 84 dX12_readTurner_76 (by decide) (fun h1156 => ?_) (fun h1156 => ?_)
        · skip
          refine sf_tuO hE hZ hS911.1 (gB) ta0 (by (try rw [c918]); first | done | with_reducible assumption | omega) ⟨_, d2⟩ rfl rfl rfl ?_
          rintro I1157 R1158 L1159 ⟨g1160, p1161, p1162, p1163, -⟩
          obtain rfl : R0 = R1158 := funext fun a => funext fun j => (g1160.2.2 a j (wm_no rfl)).symm
          have hS1164 := hS911.tr g1160 (by decide +kernel) (by decide +kernel)
          have c1165 : I1157 a1 4 = v45 := (g1160.cell ta1 (by decide +kernel)).trans c912
          have hO1166 : FrO 14 a1 T I0 I1157 := hO915.st g1160 (by decide +kernel)
          obtain ⟨v1167, c1168⟩ : ∃ v, I1157 a0 9 = v := ⟨_, rfl⟩
          have b1169 := iv15_9 hS1164.1 ta0 c1168
          rw [c1168] at p1161
          obtain ⟨v1170, c1171⟩ : ∃ v, I1157 a0 13 = v := ⟨_, rfl⟩
          rw [c1171] at p1162
          rw [c921] at p1162
          obtain ⟨v1172, c1173⟩ : ∃ v, I1157 a0 14 = v := ⟨_, rfl⟩
          rw [c1173] at p1163
          rw [c923] at p1163
          have eF := hF.eq
          have eP := hP.eq
          obtain ⟨v1174, c1175⟩ : ∃ v, I1157 a0 10 = v := ⟨_, rfl⟩
          have b1176 := iv15_10 hS1164.1 ta0 c1175
          obtain ⟨v1177, c1178⟩ : ∃ v, I1157 a0 11 = v := ⟨_, rfl⟩
          obtain ⟨y1179, c1180⟩ : ∃ v, L1159 a0 15 = v := ⟨_, rfl⟩
          obtain ⟨v1181, c1182⟩ : ∃ v, I1157 a0 12 = v := ⟨_, rfl⟩
          obtain ⟨v1183, c1184⟩ : ∃ v, I1157 a0 8 = v := ⟨_, rfl⟩
          have b1185 := iv15_8 hS1164.1 ta0 c1184
          exact ⟨rfl, rfl, rfl, rfl, rfl, hS1164, (fun b hb => (Option.some.inj (d2.symm.trans hb)) ▸ (((((FrM.rf (R := R0) (b := a1) (T := T)).st g83 (by decide +kernel)).st g146 (by decide +kernel)).st g907 (by decide +kernel)).st g1160 (by decide +kernel))), (fun dr hd => (Option.some.inj (d2.symm.trans hd)) ▸ hO1166), (Or.inr (⟨(by first | done | with_reducible assumption | omega), (by (try rw [c1168]); first | done | with_reducible assumption | omega), (by (try rw [c1171]); first | done | with_reducible assumption | omega), (by (try rw [c1173]); first | done | with_reducible assumption | omega), trivial⟩)), trivial⟩
        · skip
          exfalso; omega
    · skip
      obtain ⟨v1186, c1187⟩ : ∃ v, I143 a0 9 = v := ⟨_, rfl⟩
      have b1188 := iv15_9 hS151.1 ta0 c1187
      rw [c1187] at p174
      obtain ⟨v1189, c1190⟩ : ∃ v, I143 a0 13 = v := ⟨_, rfl⟩
      rw [c1190] at p175
      obtain ⟨v1191, c1192⟩ : ∃ v, I143 a0 14 = v := ⟨_, rfl⟩
      rw [c1192] at p176
      replace hF := hF.neg (by omega)
      replace hP := hP.neg (by omega)
      replace hF := hF.pos (by omega)
      replace hP := hP.pos (by omega)
      refine tr_lstore_n dX12_readTurner_16 (by decide) (by decide) (by decide) ?_
      refine tr_aload_n dX12_readTurner_17 rfl ?_
      refine tr_ldcwS dX12_readTurner_18 ld12_318 ?_
      refine q_callVi hE (M' := mX12_eatsWord) (as := [_]) dX12_readTurner_21 lk12_290 inX12_eatsWord seX12_eatsWord myX12_eatsWord (by decide) ⟨by decide, by decide⟩ rfl (kR15 hS151.1 ta0) (Nat.le_of_ble_eq_true rfl) rfl rfl (by decide) (by decide) (k_X12_eatsWord hS151.1 ta0 (by decide)) ?_
      rintro v1197 cn' K' N' I1193 R1194 L1195 ⟨rfl, rfl, rfl, rfl, g1196, h1198, w1199, -⟩
      have hS1200 := hS151.tr g1196 (by decide +kernel) (by decide +kernel)
      have c1201 : I1193 a1 4 = v45 := (g1196.cell ta1 (by decide +kernel)).trans c152
      have c1202 : I1193 a0 13 = v1189 := (g1196.cell ta0 (by decide +kernel)).trans c1190
      have c1203 : I1193 a0 14 = v1191 := (g1196.cell ta0 (by decide +kernel)).trans c1192
      have hO1204 : FrO 14 a1 T I0 I1193 := hO153.st g1196 (by decide +kernel)
      have ov1205 := w1199.over (by rw [c1187]; omega)
      obtain ⟨v1206, c1207⟩ : ∃ v, I1193 a0 9 = v := ⟨_, rfl⟩
      have b1208 := iv15_9 hS1200.1 ta0 c1207
      obtain ⟨v1209, c1210⟩ : ∃ v, I1193 a0 13 = v := ⟨_, rfl⟩
      obtain ⟨v1211, c1212⟩ : ∃ v, I1193 a0 14 = v := ⟨_, rfl⟩
      (try rw [c1207] at ov1205)
      (try rw [c1210] at ov1205)
      (try rw [c1212] at ov1205)
      (try rw [c1187] at ov1205)
      (try rw [c1190] at ov1205)
      (try rw [c1192] at ov1205)
      refine q_if_eq 31 dX12_readTurner_24 (by decide) (fun h1213 => ?_) (fun h1213 => ?_)
      · skip
        refine tr_aload_n dX12_readTurner_31 rfl ?_
        refine tr_ldcwS dX12_readTurner_32 ld12_320 ?_
        refine q_callVi hE (M' := mX12_eatsWord) (as := [_]) dX12_readTurner_35 lk12_290 inX12_eatsWord seX12_eatsWord myX12_eatsWord (by decide) ⟨by decide, by decide⟩ rfl (kR15 hS1200.1 ta0) (Nat.le_of_ble_eq_true rfl) rfl rfl (by decide) (by decide) (k_X12_eatsWord hS1200.1 ta0 (by decide)) ?_
        rintro v1218 cn' K' N' I1214 R1215 L1216 ⟨rfl, rfl, rfl, rfl, g1217, h1219, w1220, -⟩
        have hS1221 := hS1200.tr g1217 (by decide +kernel) (by decide +kernel)
        have c1222 : I1214 a1 4 = v45 := (g1217.cell ta1 (by decide +kernel)).trans c1201
        have c1223 : I1214 a0 13 = v1209 := (g1217.cell ta0 (by decide +kernel)).trans c1210
        have c1224 : I1214 a0 14 = v1211 := (g1217.cell ta0 (by decide +kernel)).trans c1212
        have hO1225 : FrO 14 a1 T I0 I1214 := hO1204.st g1217 (by decide +kernel)
        have ov1226 := w1220.over (by rw [c1207]; omega)
        obtain ⟨v1227, c1228⟩ : ∃ v, I1214 a0 9 = v := ⟨_, rfl⟩
        have b1229 := iv15_9 hS1221.1 ta0 c1228
        obtain ⟨v1230, c1231⟩ : ∃ v, I1214 a0 13 = v := ⟨_, rfl⟩
        obtain ⟨v1232, c1233⟩ : ∃ v, I1214 a0 14 = v := ⟨_, rfl⟩
        (try rw [c1228] at ov1226)
        (try rw [c1231] at ov1226)
        (try rw [c1233] at ov1226)
        (try rw [c1207] at ov1226)
        (try rw [c1210] at ov1226)
        (try rw [c1212] at ov1226)
        refine q_if_eq 45 dX12_readTurner_38 (by decide) (fun h1234 => ?_) (fun h1234 => ?_)
        · skip
          refine tr_aload_n dX12_readTurner_45 rfl ?_
          refine tr_ldcwS dX12_readTurner_46 ld12_322 ?_
          refine q_callVi hE (M' := mX12_eatsWord) (as := [_]) dX12_readTurner_49 lk12_290 inX12_eatsWord seX12_eatsWord myX12_eatsWord (by decide) ⟨by decide, by decide⟩ rfl (kR15 hS1221.1 ta0) (Nat.le_of_ble_eq_true rfl) rfl rfl (by decide) (by decide) (k_X12_eatsWord hS1221.1 ta0 (by decide)) ?_
          rintro v1239 cn' K' N' I1235 R1236 L1237 ⟨rfl, rfl, rfl, rfl, g1238, h1240, w1241, -⟩
          have hS1242 := hS1221.tr g1238 (by decide +kernel) (by decide +kernel)
          have c1243 : I1235 a1 4 = v45 := (g1238.cell ta1 (by decide +kernel)).trans c1222
          have c1244 : I1235 a0 13 = v1230 := (g1238.cell ta0 (by decide +kernel)).trans c1231
          have c1245 : I1235 a0 14 = v1232 := (g1238.cell ta0 (by decide +kernel)).trans c1233
          have hO1246 : FrO 14 a1 T I0 I1235 := hO1225.st g1238 (by decide +kernel)
          have ov1247 := w1241.over (by rw [c1228]; omega)
          obtain ⟨v1248, c1249⟩ : ∃ v, I1235 a0 9 = v := ⟨_, rfl⟩
          have b1250 := iv15_9 hS1242.1 ta0 c1249
          obtain ⟨v1251, c1252⟩ : ∃ v, I1235 a0 13 = v := ⟨_, rfl⟩
          obtain ⟨v1253, c1254⟩ : ∃ v, I1235 a0 14 = v := ⟨_, rfl⟩
          (try rw [c1249] at ov1247)
          (try rw [c1252] at ov1247)
          (try rw [c1254] at ov1247)
          (try rw [c1228] at ov1247)
          (try rw [c1231] at ov1247)
          (try rw [c1233] at ov1247)
          refine q_if_eq 59 dX12_readTurner_52 (by decide) (fun h1255 => ?_) (fun h1255 => ?_)
          · skip
            refine tr_aload_n dX12_readTurner_59 rfl ?_
            refine tr_ldcS dX12_readTurner_60 ld12_178 ?_
            refine q_callVi hE (M' := mX12_eatsWord) (as := [_]) dX12_readTurner_62 lk12_290 inX12_eatsWord seX12_eatsWord myX12_eatsWord (by decide) ⟨by decide, by decide⟩ rfl (kR15 hS1242.1 ta0) (Nat.le_of_ble_eq_true rfl) rfl rfl (by decide) (by decide) (k_X12_eatsWord hS1242.1 ta0 (by decide)) ?_
            rintro v1260 cn' K' N' I1256 R1257 L1258 ⟨rfl, rfl, rfl, rfl, g1259, h1261, w1262, -⟩
            have hS1263 := hS1242.tr g1259 (by decide +kernel) (by decide +kernel)
            have c1264 : I1256 a1 4 = v45 := (g1259.cell ta1 (by decide +kernel)).trans c1243
            have c1265 : I1256 a0 13 = v1251 := (g1259.cell ta0 (by decide +kernel)).trans c1252
            have c1266 : I1256 a0 14 = v1253 := (g1259.cell ta0 (by decide +kernel)).trans c1254
            have hO1267 : FrO 14 a1 T I0 I1256 := hO1246.st g1259 (by decide +kernel)
            have ov1268 := w1262.over (by rw [c1249]; omega)
            obtain ⟨v1269, c1270⟩ : ∃ v, I1256 a0 9 = v := ⟨_, rfl⟩
            have b1271 := iv15_9 hS1263.1 ta0 c1270
            obtain ⟨v1272, c1273⟩ : ∃ v, I1256 a0 13 = v := ⟨_, rfl⟩
            obtain ⟨v1274, c1275⟩ : ∃ v, I1256 a0 14 = v := ⟨_, rfl⟩
            (try rw [c1270] at ov1268)
            (try rw [c1273] at ov1268)
            (try rw [c1275] at ov1268)
            (try rw [c1249] at ov1268)
            (try rw [c1252] at ov1268)
            (try rw [c1254] at ov1268)
            refine q_if_eq 72 dX12_readTurner_65 (by decide) (fun h1276 => ?_) (fun h1276 => ?_)
            · skip
              refine q_iconst dX12_readTurner_72 (by decide) ?_
              intro v1277 h1278
              refine tr_istore_n dX12_readTurner_73 (by decide) (by decide) ?_
              refine tr_iload_n dX12_readTurner_74 rfl ?_
              refine q_iconst dX12_readTurner_75 (by decide) ?_
              intro v1279 h1280
              refine q_icmp_ne 84 dX12_readTurner_76 (by decide) (fun h1281 => ?_) (fun h1281 => ?_)
              · skip
                exfalso; omega
              · skip
                refine tr_aload_n dX12_readTurner_79 rfl ?_
                refine q_iconst dX12_readTurner_80 (by decide) ?_
                intro v1282 h1283
                obtain ⟨v1284, c1285⟩ : ∃ v, I1256 a0 8 = v := ⟨_, rfl⟩
                have b1286 := iv15_8 hS1263.1 ta0 c1285
                refine q_callVv hE (M' := mX12_flaw) (as := [_]) dX12_readTurner_81 lk12_145 inX12_flaw seX12_flaw myX12_flaw (by decide) ⟨by decide, by decide⟩ rfl (kR15 hS1263.1 ta0) (Nat.le_of_ble_eq_true rfl) rfl rfl (by decide) (by decide) (k_X12_flaw hS1263.1 ta0 (by omega)) ?_
                rintro cn' K' N' I1287 R1288 L1289 ⟨rfl, rfl, rfl, rfl, rfl, g1290, p1292, p1293, w1294, -⟩
                have hS1295 := hS1263.tr g1290 (by decide +kernel) (by decide +kernel)
                have c1296 : I1287 a1 4 = v45 := (g1290.cell ta1 (by decide +kernel)).trans c1264
                have c1297 : I1287 a0 8 = v1284 := (g1290.cell ta0 (by decide +kernel)).trans c1285
                obtain ⟨v1298, c1299⟩ : ∃ v, I1287 a0 9 = v := ⟨_, rfl⟩
                have b1300 := iv15_9 hS1295.1 ta0 c1299
                rw [c1299] at p1292
                rw [c1297] at p1293
                rw [c1285] at p1293
                have hO1301 : FrO 14 a1 T I0 I1287 := hO1267.st g1290 (by decide +kernel)
                have ov1302 := w1294.over (by rw [c1270]; omega)
                obtain ⟨v1303, c1304⟩ : ∃ v, I1287 a0 9 = v := ⟨_, rfl⟩
                have b1305 := iv15_9 hS1295.1 ta0 c1304
                obtain ⟨v1306, c1307⟩ : ∃ v, I1287 a0 13 = v := ⟨_, rfl⟩
                obtain ⟨v1308, c1309⟩ : ∃ v, I1287 a0 14 = v := ⟨_, rfl⟩
                (try rw [c1304] at ov1302)
                (try rw [c1307] at ov1302)
                (try rw [c1309] at ov1302)
                (try rw [c1270] at ov1302)
                (try rw [c1273] at ov1302)
                (try rw [c1275] at ov1302)
                refine sf_tuO hE hZ hS1295.1 (gB) ta0 (by (try rw [c1304]); first | done | with_reducible assumption | omega) ⟨_, d2⟩ rfl rfl rfl ?_
                rintro I1310 R1311 L1312 ⟨g1313, p1314, p1315, p1316, -⟩
                obtain rfl : R0 = R1311 := funext fun a => funext fun j => (g1313.2.2 a j (wm_no rfl)).symm
                have hS1317 := hS1295.tr g1313 (by decide +kernel) (by decide +kernel)
                have c1318 : I1310 a1 4 = v45 := (g1313.cell ta1 (by decide +kernel)).trans c1296
                have hO1319 : FrO 14 a1 T I0 I1310 := hO1301.st g1313 (by decide +kernel)
                obtain ⟨v1320, c1321⟩ : ∃ v, I1310 a0 9 = v := ⟨_, rfl⟩
                have b1322 := iv15_9 hS1317.1 ta0 c1321
                rw [c1321] at p1314
                obtain ⟨v1323, c1324⟩ : ∃ v, I1310 a0 13 = v := ⟨_, rfl⟩
                rw [c1324] at p1315
                rw [c1307] at p1315
                obtain ⟨v1325, c1326⟩ : ∃ v, I1310 a0 14 = v := ⟨_, rfl⟩
                rw [c1326] at p1316
                rw [c1309] at p1316
                have eF := hF.eq
                have eP := hP.eq
                obtain ⟨v1327, c1328⟩ : ∃ v, I1310 a0 10 = v := ⟨_, rfl⟩
                have b1329 := iv15_10 hS1317.1 ta0 c1328
                obtain ⟨v1330, c1331⟩ : ∃ v, I1310 a0 11 = v := ⟨_, rfl⟩
                obtain ⟨y1332, c1333⟩ : ∃ v, L1312 a0 15 = v := ⟨_, rfl⟩
                obtain ⟨v1334, c1335⟩ : ∃ v, I1310 a0 12 = v := ⟨_, rfl⟩
                obtain ⟨v1336, c1337⟩ : ∃ v, I1310 a0 8 = v := ⟨_, rfl⟩
                have b1338 := iv15_8 hS1317.1 ta0 c1337
                exact ⟨rfl, rfl, rfl, rfl, rfl, hS1317, (fun b hb => (Option.some.inj (d2.symm.trans hb)) ▸ (((((((((FrM.rf (R := R0) (b := a1) (T := T)).st g83 (by decide +kernel)).st g146 (by decide +kernel)).st g1196 (by decide +kernel)).st g1217 (by decide +kernel)).st g1238 (by decide +kernel)).st g1259 (by decide +kernel)).st g1290 (by decide +kernel)).st g1313 (by decide +kernel))), (fun dr hd => (Option.some.inj (d2.symm.trans hd)) ▸ hO1319), (Or.inr (⟨(by first | done | with_reducible assumption | omega), (by (try rw [c1321]); first | done | with_reducible assumption | omega), (by (try rw [c1324]); first | done | with_reducible assumption | omega), (by (try rw [c1326]); first | done | with_reducible assumption | omega), trivial⟩)), trivial⟩
            · skip
              refine q_iconst dX12_readTurner_68 (by decide) ?_
              intro v1339 h1340
              refine tr_goto 73 dX12_readTurner_69 (by decide) ?_
              refine tr_istore_n dX12_readTurner_73 (by decide) (by decide) ?_
              refine tr_iload_n dX12_readTurner_74 rfl ?_
              refine q_iconst dX12_readTurner_75 (by decide) ?_
              intro v1341 h1342
              refine q_icmp_ne 84 dX12_readTurner_76 (by decide) (fun h1343 => ?_) (fun h1343 => ?_)
              · skip
                refine sf_tuO hE hZ hS1263.1 (gB) ta0 (by (try rw [c1270]); first | done | with_reducible assumption | omega) ⟨_, d2⟩ rfl rfl rfl ?_
                rintro I1344 R1345 L1346 ⟨g1347, p1348, p1349, p1350, -⟩
                obtain rfl : R0 = R1345 := funext fun a => funext fun j => (g1347.2.2 a j (wm_no rfl)).symm
                have hS1351 := hS1263.tr g1347 (by decide +kernel) (by decide +kernel)
                have c1352 : I1344 a1 4 = v45 := (g1347.cell ta1 (by decide +kernel)).trans c1264
                have hO1353 : FrO 14 a1 T I0 I1344 := hO1267.st g1347 (by decide +kernel)
                obtain ⟨v1354, c1355⟩ : ∃ v, I1344 a0 9 = v := ⟨_, rfl⟩
                have b1356 := iv15_9 hS1351.1 ta0 c1355
                rw [c1355] at p1348
                obtain ⟨v1357, c1358⟩ : ∃ v, I1344 a0 13 = v := ⟨_, rfl⟩
                rw [c1358] at p1349
                rw [c1273] at p1349
                obtain ⟨v1359, c1360⟩ : ∃ v, I1344 a0 14 = v := ⟨_, rfl⟩
                rw [c1360] at p1350
                rw [c1275] at p1350
                have eF := hF.eq
                have eP := hP.eq
                obtain ⟨v1361, c1362⟩ : ∃ v, I1344 a0 10 = v := ⟨_, rfl⟩
                have b1363 := iv15_10 hS1351.1 ta0 c1362
                obtain ⟨v1364, c1365⟩ : ∃ v, I1344 a0 11 = v := ⟨_, rfl⟩
                obtain ⟨y1366, c1367⟩ : ∃ v, L1346 a0 15 = v := ⟨_, rfl⟩
                obtain ⟨v1368, c1369⟩ : ∃ v, I1344 a0 12 = v := ⟨_, rfl⟩
                obtain ⟨v1370, c1371⟩ : ∃ v, I1344 a0 8 = v := ⟨_, rfl⟩
                have b1372 := iv15_8 hS1351.1 ta0 c1371
                exact ⟨rfl, rfl, rfl, rfl, rfl, hS1351, (fun b hb => (Option.some.inj (d2.symm.trans hb)) ▸ ((((((((FrM.rf (R := R0) (b := a1) (T := T)).st g83 (by decide +kernel)).st g146 (by decide +kernel)).st g1196 (by decide +kernel)).st g1217 (by decide +kernel)).st g1238 (by decide +kernel)).st g1259 (by decide +kernel)).st g1347 (by decide +kernel))), (fun dr hd => (Option.some.inj (d2.symm.trans hd)) ▸ hO1353), (Or.inr (⟨(by first | done | with_reducible assumption | omega), (by (try rw [c1355]); first | done | with_reducible assumption | omega), (by (try rw [c1358]); first | done | with_reducible assumption | omega), (by (try rw [c1360]); first | done | with_reducible assumption | omega), trivial⟩)), trivial⟩
              · skip
                exfalso; omega
          · skip
            refine q_iconst dX12_readTurner_55 (by decide) ?_
            intro v1373 h1374
            refine tr_goto 73 dX12_readTurner_56 (by decide) ?_
            refine tr_istore_n dX12_readTurner_73 (by decide) (by decide) ?_
            refine tr_iload_n dX12_readTurner_74 rfl ?_
            refine q_iconst dX12_readTurner_75 (by decide) ?_
            intro v1375 h1376
            refine q_icmp_ne 84 dX12_readTurner_76 (by decide) (fun h1377 => ?_) (fun h1377 => ?_)
            · skip
              refine sf_tuO hE hZ hS1242.1 (gB) ta0 (by (try rw [c1249]); first | done | with_reducible assumption | omega) ⟨_, d2⟩ rfl rfl rfl ?_
              rintro I1378 R1379 L1380 ⟨g1381, p1382, p1383, p1384, -⟩
              obtain rfl : R0 = R1379 := funext fun a => funext fun j => (g1381.2.2 a j (wm_no rfl)).symm
              have hS1385 := hS1242.tr g1381 (by decide +kernel) (by decide +kernel)
              have c1386 : I1378 a1 4 = v45 := (g1381.cell ta1 (by decide +kernel)).trans c1243
              have hO1387 : FrO 14 a1 T I0 I1378 := hO1246.st g1381 (by decide +kernel)
              obtain ⟨v1388, c1389⟩ : ∃ v, I1378 a0 9 = v := ⟨_, rfl⟩
              have b1390 := iv15_9 hS1385.1 ta0 c1389
              rw [c1389] at p1382
              obtain ⟨v1391, c1392⟩ : ∃ v, I1378 a0 13 = v := ⟨_, rfl⟩
              rw [c1392] at p1383
              rw [c1252] at p1383
              obtain ⟨v1393, c1394⟩ : ∃ v, I1378 a0 14 = v := ⟨_, rfl⟩
              rw [c1394] at p1384
              rw [c1254] at p1384
              have eF := hF.eq
              have eP := hP.eq
              obtain ⟨v1395, c1396⟩ : ∃ v, I1378 a0 10 = v := ⟨_, rfl⟩
              have b1397 := iv15_10 hS1385.1 ta0 c1396
              obtain ⟨v1398, c1399⟩ : ∃ v, I1378 a0 11 = v := ⟨_, rfl⟩
              obtain ⟨y1400, c1401⟩ : ∃ v, L1380 a0 15 = v := ⟨_, rfl⟩
              obtain ⟨v1402, c1403⟩ : ∃ v, I1378 a0 12 = v := ⟨_, rfl⟩
              obtain ⟨v1404, c1405⟩ : ∃ v, I1378 a0 8 = v := ⟨_, rfl⟩
              have b1406 := iv15_8 hS1385.1 ta0 c1405
              exact ⟨rfl, rfl, rfl, rfl, rfl, hS1385, (fun b hb => (Option.some.inj (d2.symm.trans hb)) ▸ (((((((FrM.rf (R := R0) (b := a1) (T := T)).st g83 (by decide +kernel)).st g146 (by decide +kernel)).st g1196 (by decide +kernel)).st g1217 (by decide +kernel)).st g1238 (by decide +kernel)).st g1381 (by decide +kernel))), (fun dr hd => (Option.some.inj (d2.symm.trans hd)) ▸ hO1387), (Or.inr (⟨(by first | done | with_reducible assumption | omega), (by (try rw [c1389]); first | done | with_reducible assumption | omega), (by (try rw [c1392]); first | done | with_reducible assumption | omega), (by (try rw [c1394]); first | done | with_reducible assumption | omega), trivial⟩)), trivial⟩
            · skip
              exfalso; omega
        · skip
          refine q_iconst dX12_readTurner_41 (by decide) ?_
          intro v1407 h1408
          refine tr_goto 73 dX12_readTurner_42 (by decide) ?_
          refine tr_istore_n dX12_readTurner_73 (by decide) (by decide) ?_
          refine tr_iload_n dX12_readTurner_74 rfl ?_
          refine q_iconst dX12_readTurner_75 (by decide) ?_
          intro v1409 h1410
          refine q_icmp_ne 84 dX12_readTurner_76 (by decide) (fun h1411 => ?_) (fun h1411 => ?_)
          · skip
            refine sf_tuO hE hZ hS1221.1 (gB) ta0 (by (try rw [c1228]); first | done | with_reducible assumption | omega) ⟨_, d2⟩ rfl rfl rfl ?_
            rintro I1412 R1413 L1414 ⟨g1415, p1416, p1417, p1418, -⟩
            obtain rfl : R0 = R1413 := funext fun a => funext fun j => (g1415.2.2 a j (wm_no rfl)).symm
            have hS1419 := hS1221.tr g1415 (by decide +kernel) (by decide +kernel)
            have c1420 : I1412 a1 4 = v45 := (g1415.cell ta1 (by decide +kernel)).trans c1222
            have hO1421 : FrO 14 a1 T I0 I1412 := hO1225.st g1415 (by decide +kernel)
            obtain ⟨v1422, c1423⟩ : ∃ v, I1412 a0 9 = v := ⟨_, rfl⟩
            have b1424 := iv15_9 hS1419.1 ta0 c1423
            rw [c1423] at p1416
            obtain ⟨v1425, c1426⟩ : ∃ v, I1412 a0 13 = v := ⟨_, rfl⟩
            rw [c1426] at p1417
            rw [c1231] at p1417
            obtain ⟨v1427, c1428⟩ : ∃ v, I1412 a0 14 = v := ⟨_, rfl⟩
            rw [c1428] at p1418
            rw [c1233] at p1418
            have eF := hF.eq
            have eP := hP.eq
            obtain ⟨v1429, c1430⟩ : ∃ v, I1412 a0 10 = v := ⟨_, rfl⟩
            have b1431 := iv15_10 hS1419.1 ta0 c1430
            obtain ⟨v1432, c1433⟩ : ∃ v, I1412 a0 11 = v := ⟨_, rfl⟩
            obtain ⟨y1434, c1435⟩ : ∃ v, L1414 a0 15 = v := ⟨_, rfl⟩
            obtain ⟨v1436, c1437⟩ : ∃ v, I1412 a0 12 = v := ⟨_, rfl⟩
            obtain ⟨v1438, c1439⟩ : ∃ v, I1412 a0 8 = v := ⟨_, rfl⟩
            have b1440 := iv15_8 hS1419.1 ta0 c1439
            exact ⟨rfl, rfl, rfl, rfl, rfl, hS1419, (fun b hb => (Option.some.inj (d2.symm.trans hb)) ▸ ((((((FrM.rf (R := R0) (b := a1) (T := T)).st g83 (by decide +kernel)).st g146 (by decide +kernel)).st g1196 (by decide +kernel)).st g1217 (by decide +kernel)).st g1415 (by decide +kernel))), (fun dr hd => (Option.some.inj (d2.symm.trans hd)) ▸ hO1421), (Or.inr (⟨(by first | done | with_reducible assumption | omega), (by (try rw [c1423]); first | done | with_reducible assumption | omega), (by (try rw [c1426]); first | done | with_reducible assumption | omega), (by (try rw [c1428]); first | done | with_reducible assumption | omega), trivial⟩)), trivial⟩
          · skip
            exfalso; omega
      · skip
        refine q_iconst dX12_readTurner_27 (by decide) ?_
        intro v1441 h1442
        refine tr_goto 73 dX12_readTurner_28 (by decide) ?_
        refine tr_istore_n dX12_readTurner_73 (by decide) (by decide) ?_
        refine tr_iload_n dX12_readTurner_74 rfl ?_
        refine q_iconst dX12_readTurner_75 (by decide) ?_
        intro v1443 h1444
        refine q_icmp_ne 84 dX12_readTurner_76 (by decide) (fun h1445 => ?_) (fun h1445 => ?_)
        · skip
          refine sf_tuO hE hZ hS1200.1 (gB) ta0 (by (try rw [c1207]); first | done | with_reducible assumption | omega) ⟨_, d2⟩ rfl rfl rfl ?_
          rintro I1446 R1447 L1448 ⟨g1449, p1450, p1451, p1452, -⟩
          obtain rfl : R0 = R1447 := funext fun a => funext fun j => (g1449.2.2 a j (wm_no rfl)).symm
          have hS1453 := hS1200.tr g1449 (by decide +kernel) (by decide +kernel)
          have c1454 : I1446 a1 4 = v45 := (g1449.cell ta1 (by decide +kernel)).trans c1201
          have hO1455 : FrO 14 a1 T I0 I1446 := hO1204.st g1449 (by decide +kernel)
          obtain ⟨v1456, c1457⟩ : ∃ v, I1446 a0 9 = v := ⟨_, rfl⟩
          have b1458 := iv15_9 hS1453.1 ta0 c1457
          rw [c1457] at p1450
          obtain ⟨v1459, c1460⟩ : ∃ v, I1446 a0 13 = v := ⟨_, rfl⟩
          rw [c1460] at p1451
          rw [c1210] at p1451
          obtain ⟨v1461, c1462⟩ : ∃ v, I1446 a0 14 = v := ⟨_, rfl⟩
          rw [c1462] at p1452
          rw [c1212] at p1452
          have eF := hF.eq
          have eP := hP.eq
          obtain ⟨v1463, c1464⟩ : ∃ v, I1446 a0 10 = v := ⟨_, rfl⟩
          have b1465 := iv15_10 hS1453.1 ta0 c1464
          obtain ⟨v1466, c1467⟩ : ∃ v, I1446 a0 11 = v := ⟨_, rfl⟩
          obtain ⟨y1468, c1469⟩ : ∃ v, L1448 a0 15 = v := ⟨_, rfl⟩
          obtain ⟨v1470, c1471⟩ : ∃ v, I1446 a0 12 = v := ⟨_, rfl⟩
          obtain ⟨v1472, c1473⟩ : ∃ v, I1446 a0 8 = v := ⟨_, rfl⟩
          have b1474 := iv15_8 hS1453.1 ta0 c1473
          exact ⟨rfl, rfl, rfl, rfl, rfl, hS1453, (fun b hb => (Option.some.inj (d2.symm.trans hb)) ▸ (((((FrM.rf (R := R0) (b := a1) (T := T)).st g83 (by decide +kernel)).st g146 (by decide +kernel)).st g1196 (by decide +kernel)).st g1449 (by decide +kernel))), (fun dr hd => (Option.some.inj (d2.symm.trans hd)) ▸ hO1455), (Or.inr (⟨(by first | done | with_reducible assumption | omega), (by (try rw [c1457]); first | done | with_reducible assumption | omega), (by (try rw [c1460]); first | done | with_reducible assumption | omega), (by (try rw [c1462]); first | done | with_reducible assumption | omega), trivial⟩)), trivial⟩
        · skip
          exfalso; omega
  · skip
    obtain ⟨v1475, c1476⟩ : ∃ v, I80 a0 9 = v := ⟨_, rfl⟩
    have b1477 := iv15_9 hS88.1 ta0 c1476
    rw [c1476] at p103
    obtain ⟨v1478, c1479⟩ : ∃ v, I80 a0 13 = v := ⟨_, rfl⟩
    rw [c1479] at p104
    obtain ⟨v1480, c1481⟩ : ∃ v, I80 a0 14 = v := ⟨_, rfl⟩
    rw [c1481] at p105
    have p1482 := p61
    unfold Q7M at p1482
    replace hF := hF.pos (by omega)
    replace hP := hP.pos (by omega)
    clear p1482
    refine tr_aload_n dX12_readTurner_12 rfl ?_
    refine q_callVl hE (M' := mX12_readFresh) (as := []) dX12_readTurner_13 lk12_285 inX12_readFresh seX12_readFresh myX12_readFresh (by decide) ⟨by decide, by decide⟩ rfl (kR15 hS88.1 ta0) (Nat.le_of_ble_eq_true rfl) rfl rfl (by decide) (by decide) (k_X12_readFresh hS88.1 ta0 ⟨_, d2⟩) ?_
    rintro y1487 cn' K' N' I1483 R1484 L1485 ⟨rfl, rfl, rfl, rfl, g1486, w1488, -⟩
    have hS1489 := hS88.tr g1486 (by decide +kernel) (by decide +kernel)
    have c1490 : I1483 a1 4 = v45 := (g1486.cell ta1 (by decide +kernel)).trans c89
    have hO1491 : FrO 14 a1 T I0 I1483 := hO90.st g1486 (by decide +kernel)
    have ov1492 := w1488.over (by rw [c1476]; omega)
    obtain ⟨v1493, c1494⟩ : ∃ v, I1483 a0 9 = v := ⟨_, rfl⟩
    have b1495 := iv15_9 hS1489.1 ta0 c1494
    obtain ⟨v1496, c1497⟩ : ∃ v, I1483 a0 13 = v := ⟨_, rfl⟩
    obtain ⟨v1498, c1499⟩ : ∃ v, I1483 a0 14 = v := ⟨_, rfl⟩
    (try rw [c1494] at ov1492)
    (try rw [c1497] at ov1492)
    (try rw [c1499] at ov1492)
    (try rw [c1476] at ov1492)
    (try rw [c1479] at ov1492)
    (try rw [c1481] at ov1492)
    refine tr_lstore_n dX12_readTurner_16 (by decide) (by decide) (by decide) ?_
    refine tr_aload_n dX12_readTurner_17 rfl ?_
    refine tr_ldcwS dX12_readTurner_18 ld12_318 ?_
    refine q_callVi hE (M' := mX12_eatsWord) (as := [_]) dX12_readTurner_21 lk12_290 inX12_eatsWord seX12_eatsWord myX12_eatsWord (by decide) ⟨by decide, by decide⟩ rfl (kR15 hS1489.1 ta0) (Nat.le_of_ble_eq_true rfl) rfl rfl (by decide) (by decide) (k_X12_eatsWord hS1489.1 ta0 (by decide)) ?_
    rintro v1504 cn' K' N' I1500 R1501 L1502 ⟨rfl, rfl, rfl, rfl, g1503, h1505, w1506, -⟩
    have hS1507 := hS1489.tr g1503 (by decide +kernel) (by decide +kernel)
    have c1508 : I1500 a1 4 = v45 := (g1503.cell ta1 (by decide +kernel)).trans c1490
    have c1509 : I1500 a0 13 = v1496 := (g1503.cell ta0 (by decide +kernel)).trans c1497
    have c1510 : I1500 a0 14 = v1498 := (g1503.cell ta0 (by decide +kernel)).trans c1499
    have hO1511 : FrO 14 a1 T I0 I1500 := hO1491.st g1503 (by decide +kernel)
    have ov1512 := w1506.over (by rw [c1494]; omega)
    obtain ⟨v1513, c1514⟩ : ∃ v, I1500 a0 9 = v := ⟨_, rfl⟩
    have b1515 := iv15_9 hS1507.1 ta0 c1514
    obtain ⟨v1516, c1517⟩ : ∃ v, I1500 a0 13 = v := ⟨_, rfl⟩
    obtain ⟨v1518, c1519⟩ : ∃ v, I1500 a0 14 = v := ⟨_, rfl⟩
    (try rw [c1514] at ov1512)
    (try rw [c1517] at ov1512)
    (try rw [c1519] at ov1512)
    (try rw [c1494] at ov1512)
    (try rw [c1497] at ov1512)
    (try rw [c1499] at ov1512)
    refine q_if_eq 31 dX12_readTurner_24 (by decide) (fun h1520 => ?_) (fun h1520 => ?_)
    · skip
      refine tr_aload_n dX12_readTurner_31 rfl ?_
      refine tr_ldcwS dX12_readTurner_32 ld12_320 ?_
      refine q_callVi hE (M' := mX12_eatsWord) (as := [_]) dX12_readTurner_35 lk12_290 inX12_eatsWord seX12_eatsWord myX12_eatsWord (by decide) ⟨by decide, by decide⟩ rfl (kR15 hS1507.1 ta0) (Nat.le_of_ble_eq_true rfl) rfl rfl (by decide) (by decide) (k_X12_eatsWord hS1507.1 ta0 (by decide)) ?_
      rintro v1525 cn' K' N' I1521 R1522 L1523 ⟨rfl, rfl, rfl, rfl, g1524, h1526, w1527, -⟩
      have hS1528 := hS1507.tr g1524 (by decide +kernel) (by decide +kernel)
      have c1529 : I1521 a1 4 = v45 := (g1524.cell ta1 (by decide +kernel)).trans c1508
      have c1530 : I1521 a0 13 = v1516 := (g1524.cell ta0 (by decide +kernel)).trans c1517
      have c1531 : I1521 a0 14 = v1518 := (g1524.cell ta0 (by decide +kernel)).trans c1519
      have hO1532 : FrO 14 a1 T I0 I1521 := hO1511.st g1524 (by decide +kernel)
      have ov1533 := w1527.over (by rw [c1514]; omega)
      obtain ⟨v1534, c1535⟩ : ∃ v, I1521 a0 9 = v := ⟨_, rfl⟩
      have b1536 := iv15_9 hS1528.1 ta0 c1535
      obtain ⟨v1537, c1538⟩ : ∃ v, I1521 a0 13 = v := ⟨_, rfl⟩
      obtain ⟨v1539, c1540⟩ : ∃ v, I1521 a0 14 = v := ⟨_, rfl⟩
      (try rw [c1535] at ov1533)
      (try rw [c1538] at ov1533)
      (try rw [c1540] at ov1533)
      (try rw [c1514] at ov1533)
      (try rw [c1517] at ov1533)
      (try rw [c1519] at ov1533)
      refine q_if_eq 45 dX12_readTurner_38 (by decide) (fun h1541 => ?_) (fun h1541 => ?_)
      · skip
        refine tr_aload_n dX12_readTurner_45 rfl ?_
        refine tr_ldcwS dX12_readTurner_46 ld12_322 ?_
        refine q_callVi hE (M' := mX12_eatsWord) (as := [_]) dX12_readTurner_49 lk12_290 inX12_eatsWord seX12_eatsWord myX12_eatsWord (by decide) ⟨by decide, by decide⟩ rfl (kR15 hS1528.1 ta0) (Nat.le_of_ble_eq_true rfl) rfl rfl (by decide) (by decide) (k_X12_eatsWord hS1528.1 ta0 (by decide)) ?_
        rintro v1546 cn' K' N' I1542 R1543 L1544 ⟨rfl, rfl, rfl, rfl, g1545, h1547, w1548, -⟩
        have hS1549 := hS1528.tr g1545 (by decide +kernel) (by decide +kernel)
        have c1550 : I1542 a1 4 = v45 := (g1545.cell ta1 (by decide +kernel)).trans c1529
        have c1551 : I1542 a0 13 = v1537 := (g1545.cell ta0 (by decide +kernel)).trans c1538
        have c1552 : I1542 a0 14 = v1539 := (g1545.cell ta0 (by decide +kernel)).trans c1540
        have hO1553 : FrO 14 a1 T I0 I1542 := hO1532.st g1545 (by decide +kernel)
        have ov1554 := w1548.over (by rw [c1535]; omega)
        obtain ⟨v1555, c1556⟩ : ∃ v, I1542 a0 9 = v := ⟨_, rfl⟩
        have b1557 := iv15_9 hS1549.1 ta0 c1556
        obtain ⟨v1558, c1559⟩ : ∃ v, I1542 a0 13 = v := ⟨_, rfl⟩
        obtain ⟨v1560, c1561⟩ : ∃ v, I1542 a0 14 = v := ⟨_, rfl⟩
        (try rw [c1556] at ov1554)
        (try rw [c1559] at ov1554)
        (try rw [c1561] at ov1554)
        (try rw [c1535] at ov1554)
        (try rw [c1538] at ov1554)
        (try rw [c1540] at ov1554)
        refine q_if_eq 59 dX12_readTurner_52 (by decide) (fun h1562 => ?_) (fun h1562 => ?_)
        · skip
          refine tr_aload_n dX12_readTurner_59 rfl ?_
          refine tr_ldcS dX12_readTurner_60 ld12_178 ?_
          refine q_callVi hE (M' := mX12_eatsWord) (as := [_]) dX12_readTurner_62 lk12_290 inX12_eatsWord seX12_eatsWord myX12_eatsWord (by decide) ⟨by decide, by decide⟩ rfl (kR15 hS1549.1 ta0) (Nat.le_of_ble_eq_true rfl) rfl rfl (by decide) (by decide) (k_X12_eatsWord hS1549.1 ta0 (by decide)) ?_
          rintro v1567 cn' K' N' I1563 R1564 L1565 ⟨rfl, rfl, rfl, rfl, g1566, h1568, w1569, -⟩
          have hS1570 := hS1549.tr g1566 (by decide +kernel) (by decide +kernel)
          have c1571 : I1563 a1 4 = v45 := (g1566.cell ta1 (by decide +kernel)).trans c1550
          have c1572 : I1563 a0 13 = v1558 := (g1566.cell ta0 (by decide +kernel)).trans c1559
          have c1573 : I1563 a0 14 = v1560 := (g1566.cell ta0 (by decide +kernel)).trans c1561
          have hO1574 : FrO 14 a1 T I0 I1563 := hO1553.st g1566 (by decide +kernel)
          have ov1575 := w1569.over (by rw [c1556]; omega)
          obtain ⟨v1576, c1577⟩ : ∃ v, I1563 a0 9 = v := ⟨_, rfl⟩
          have b1578 := iv15_9 hS1570.1 ta0 c1577
          obtain ⟨v1579, c1580⟩ : ∃ v, I1563 a0 13 = v := ⟨_, rfl⟩
          obtain ⟨v1581, c1582⟩ : ∃ v, I1563 a0 14 = v := ⟨_, rfl⟩
          (try rw [c1577] at ov1575)
          (try rw [c1580] at ov1575)
          (try rw [c1582] at ov1575)
          (try rw [c1556] at ov1575)
          (try rw [c1559] at ov1575)
          (try rw [c1561] at ov1575)
          refine q_if_eq 72 dX12_readTurner_65 (by decide) (fun h1583 => ?_) (fun h1583 => ?_)
          · skip
            refine q_iconst dX12_readTurner_72 (by decide) ?_
            intro v1584 h1585
            refine tr_istore_n dX12_readTurner_73 (by decide) (by decide) ?_
            refine tr_iload_n dX12_readTurner_74 rfl ?_
            refine q_iconst dX12_readTurner_75 (by decide) ?_
            intro v1586 h1587
            refine q_icmp_ne 84 dX12_readTurner_76 (by decide) (fun h1588 => ?_) (fun h1588 => ?_)
            · skip
              exfalso; omega
            · skip
              refine tr_aload_n dX12_readTurner_79 rfl ?_
              refine q_iconst dX12_readTurner_80 (by decide) ?_
              intro v1589 h1590
              obtain ⟨v1591, c1592⟩ : ∃ v, I1563 a0 8 = v := ⟨_, rfl⟩
              have b1593 := iv15_8 hS1570.1 ta0 c1592
              refine q_callVv hE (M' := mX12_flaw) (as := [_]) dX12_readTurner_81 lk12_145 inX12_flaw seX12_flaw myX12_flaw (by decide) ⟨by decide, by decide⟩ rfl (kR15 hS1570.1 ta0) (Nat.le_of_ble_eq_true rfl) rfl rfl (by decide) (by decide) (k_X12_flaw hS1570.1 ta0 (by omega)) ?_
              rintro cn' K' N' I1594 R1595 L1596 ⟨rfl, rfl, rfl, rfl, rfl, g1597, p1599, p1600, w1601, -⟩
              have hS1602 := hS1570.tr g1597 (by decide +kernel) (by decide +kernel)
              have c1603 : I1594 a1 4 = v45 := (g1597.cell ta1 (by decide +kernel)).trans c1571
              have c1604 : I1594 a0 8 = v1591 := (g1597.cell ta0 (by decide +kernel)).trans c1592
              obtain ⟨v1605, c1606⟩ : ∃ v, I1594 a0 9 = v := ⟨_, rfl⟩
              have b1607 := iv15_9 hS1602.1 ta0 c1606
              rw [c1606] at p1599
              rw [c1604] at p1600
              rw [c1592] at p1600
              have hO1608 : FrO 14 a1 T I0 I1594 := hO1574.st g1597 (by decide +kernel)
              have ov1609 := w1601.over (by rw [c1577]; omega)
              obtain ⟨v1610, c1611⟩ : ∃ v, I1594 a0 9 = v := ⟨_, rfl⟩
              have b1612 := iv15_9 hS1602.1 ta0 c1611
              obtain ⟨v1613, c1614⟩ : ∃ v, I1594 a0 13 = v := ⟨_, rfl⟩
              obtain ⟨v1615, c1616⟩ : ∃ v, I1594 a0 14 = v := ⟨_, rfl⟩
              (try rw [c1611] at ov1609)
              (try rw [c1614] at ov1609)
              (try rw [c1616] at ov1609)
              (try rw [c1577] at ov1609)
              (try rw [c1580] at ov1609)
              (try rw [c1582] at ov1609)
              refine sf_tuO hE hZ hS1602.1 (gB) ta0 (by (try rw [c1611]); first | done | with_reducible assumption | omega) ⟨_, d2⟩ rfl rfl rfl ?_
              rintro I1617 R1618 L1619 ⟨g1620, p1621, p1622, p1623, -⟩
              obtain rfl : R0 = R1618 := funext fun a => funext fun j => (g1620.2.2 a j (wm_no rfl)).symm
              have hS1624 := hS1602.tr g1620 (by decide +kernel) (by decide +kernel)
              have c1625 : I1617 a1 4 = v45 := (g1620.cell ta1 (by decide +kernel)).trans c1603
              have hO1626 : FrO 14 a1 T I0 I1617 := hO1608.st g1620 (by decide +kernel)
              obtain ⟨v1627, c1628⟩ : ∃ v, I1617 a0 9 = v := ⟨_, rfl⟩
              have b1629 := iv15_9 hS1624.1 ta0 c1628
              rw [c1628] at p1621
              obtain ⟨v1630, c1631⟩ : ∃ v, I1617 a0 13 = v := ⟨_, rfl⟩
              rw [c1631] at p1622
              rw [c1614] at p1622
              obtain ⟨v1632, c1633⟩ : ∃ v, I1617 a0 14 = v := ⟨_, rfl⟩
              rw [c1633] at p1623
              rw [c1616] at p1623
              have eF := hF.eq
              have eP := hP.eq
              obtain ⟨v1634, c1635⟩ : ∃ v, I1617 a0 10 = v := ⟨_, rfl⟩
              have b1636 := iv15_10 hS1624.1 ta0 c1635
              obtain ⟨v1637, c1638⟩ : ∃ v, I1617 a0 11 = v := ⟨_, rfl⟩
              obtain ⟨y1639, c1640⟩ : ∃ v, L1619 a0 15 = v := ⟨_, rfl⟩
              obtain ⟨v1641, c1642⟩ : ∃ v, I1617 a0 12 = v := ⟨_, rfl⟩
              obtain ⟨v1643, c1644⟩ : ∃ v, I1617 a0 8 = v := ⟨_, rfl⟩
              have b1645 := iv15_8 hS1624.1 ta0 c1644
              exact ⟨rfl, rfl, rfl, rfl, rfl, hS1624, (fun b hb => (Option.some.inj (d2.symm.trans hb)) ▸ (((((((((FrM.rf (R := R0) (b := a1) (T := T)).st g83 (by decide +kernel)).st g1486 (by decide +kernel)).st g1503 (by decide +kernel)).st g1524 (by decide +kernel)).st g1545 (by decide +kernel)).st g1566 (by decide +kernel)).st g1597 (by decide +kernel)).st g1620 (by decide +kernel))), (fun dr hd => (Option.some.inj (d2.symm.trans hd)) ▸ hO1626), (Or.inr (⟨(by first | done | with_reducible assumption | omega), (by (try rw [c1628]); first | done | with_reducible assumption | omega), (by (try rw [c1631]); first | done | with_reducible assumption | omega), (by (try rw [c1633]); first | done | with_reducible assumption | omega), trivial⟩)), trivial⟩
          · skip
            refine q_iconst dX12_readTurner_68 (by decide) ?_
            intro v1646 h1647
            refine tr_goto 73 dX12_readTurner_69 (by decide) ?_
            refine tr_istore_n dX12_readTurner_73 (by decide) (by decide) ?_
            refine tr_iload_n dX12_readTurner_74 rfl ?_
            refine q_iconst dX12_readTurner_75 (by decide) ?_
            intro v1648 h1649
            refine q_icmp_ne 84 dX12_readTurner_76 (by decide) (fun h1650 => ?_) (fun h1650 => ?_)
            · skip
              refine sf_tuO hE hZ hS1570.1 (gB) ta0 (by (try rw [c1577]); first | done | with_reducible assumption | omega) ⟨_, d2⟩ rfl rfl rfl ?_
              rintro I1651 R1652 L1653 ⟨g1654, p1655, p1656, p1657, -⟩
              obtain rfl : R0 = R1652 := funext fun a => funext fun j => (g1654.2.2 a j (wm_no rfl)).symm
              have hS1658 := hS1570.tr g1654 (by decide +kernel) (by decide +kernel)
              have c1659 : I1651 a1 4 = v45 := (g1654.cell ta1 (by decide +kernel)).trans c1571
              have hO1660 : FrO 14 a1 T I0 I1651 := hO1574.st g1654 (by decide +kernel)
              obtain ⟨v1661, c1662⟩ : ∃ v, I1651 a0 9 = v := ⟨_, rfl⟩
              have b1663 := iv15_9 hS1658.1 ta0 c1662
              rw [c1662] at p1655
              obtain ⟨v1664, c1665⟩ : ∃ v, I1651 a0 13 = v := ⟨_, rfl⟩
              rw [c1665] at p1656
              rw [c1580] at p1656
              obtain ⟨v1666, c1667⟩ : ∃ v, I1651 a0 14 = v := ⟨_, rfl⟩
              rw [c1667] at p1657
              rw [c1582] at p1657
              have eF := hF.eq
              have eP := hP.eq
              obtain ⟨v1668, c1669⟩ : ∃ v, I1651 a0 10 = v := ⟨_, rfl⟩
              have b1670 := iv15_10 hS1658.1 ta0 c1669
              obtain ⟨v1671, c1672⟩ : ∃ v, I1651 a0 11 = v := ⟨_, rfl⟩
              obtain ⟨y1673, c1674⟩ : ∃ v, L1653 a0 15 = v := ⟨_, rfl⟩
              obtain ⟨v1675, c1676⟩ : ∃ v, I1651 a0 12 = v := ⟨_, rfl⟩
              obtain ⟨v1677, c1678⟩ : ∃ v, I1651 a0 8 = v := ⟨_, rfl⟩
              have b1679 := iv15_8 hS1658.1 ta0 c1678
              exact ⟨rfl, rfl, rfl, rfl, rfl, hS1658, (fun b hb => (Option.some.inj (d2.symm.trans hb)) ▸ ((((((((FrM.rf (R := R0) (b := a1) (T := T)).st g83 (by decide +kernel)).st g1486 (by decide +kernel)).st g1503 (by decide +kernel)).st g1524 (by decide +kernel)).st g1545 (by decide +kernel)).st g1566 (by decide +kernel)).st g1654 (by decide +kernel))), (fun dr hd => (Option.some.inj (d2.symm.trans hd)) ▸ hO1660), (Or.inr (⟨(by first | done | with_reducible assumption | omega), (by (try rw [c1662]); first | done | with_reducible assumption | omega), (by (try rw [c1665]); first | done | with_reducible assumption | omega), (by (try rw [c1667]); first | done | with_reducible assumption | omega), trivial⟩)), trivial⟩
            · skip
              exfalso; omega
        · skip
          refine q_iconst dX12_readTurner_55 (by decide) ?_
          intro v1680 h1681
          refine tr_goto 73 dX12_readTurner_56 (by decide) ?_
          refine tr_istore_n dX12_readTurner_73 (by decide) (by decide) ?_
          refine tr_iload_n dX12_readTurner_74 rfl ?_
          refine q_iconst dX12_readTurner_75 (by decide) ?_
          intro v1682 h1683
          refine q_icmp_ne 84 dX12_readTurner_76 (by decide) (fun h1684 => ?_) (fun h1684 => ?_)
          · skip
            refine sf_tuO hE hZ hS1549.1 (gB) ta0 (by (try rw [c1556]); first | done | with_reducible assumption | omega) ⟨_, d2⟩ rfl rfl rfl ?_
            rintro I1685 R1686 L1687 ⟨g1688, p1689, p1690, p1691, -⟩
            obtain rfl : R0 = R1686 := funext fun a => funext fun j => (g1688.2.2 a j (wm_no rfl)).symm
            have hS1692 := hS1549.tr g1688 (by decide +kernel) (by decide +kernel)
            have c1693 : I1685 a1 4 = v45 := (g1688.cell ta1 (by decide +kernel)).trans c1550
            have hO1694 : FrO 14 a1 T I0 I1685 := hO1553.st g1688 (by decide +kernel)
            obtain ⟨v1695, c1696⟩ : ∃ v, I1685 a0 9 = v := ⟨_, rfl⟩
            have b1697 := iv15_9 hS1692.1 ta0 c1696
            rw [c1696] at p1689
            obtain ⟨v1698, c1699⟩ : ∃ v, I1685 a0 13 = v := ⟨_, rfl⟩
            rw [c1699] at p1690
            rw [c1559] at p1690
            obtain ⟨v1700, c1701⟩ : ∃ v, I1685 a0 14 = v := ⟨_, rfl⟩
            rw [c1701] at p1691
            rw [c1561] at p1691
            have eF := hF.eq
            have eP := hP.eq
            obtain ⟨v1702, c1703⟩ : ∃ v, I1685 a0 10 = v := ⟨_, rfl⟩
            have b1704 := iv15_10 hS1692.1 ta0 c1703
            obtain ⟨v1705, c1706⟩ : ∃ v, I1685 a0 11 = v := ⟨_, rfl⟩
            obtain ⟨y1707, c1708⟩ : ∃ v, L1687 a0 15 = v := ⟨_, rfl⟩
            obtain ⟨v1709, c1710⟩ : ∃ v, I1685 a0 12 = v := ⟨_, rfl⟩
            obtain ⟨v1711, c1712⟩ : ∃ v, I1685 a0 8 = v := ⟨_, rfl⟩
            have b1713 := iv15_8 hS1692.1 ta0 c1712
            exact ⟨rfl, rfl, rfl, rfl, rfl, hS1692, (fun b hb => (Option.some.inj (d2.symm.trans hb)) ▸ (((((((FrM.rf (R := R0) (b := a1) (T := T)).st g83 (by decide +kernel)).st g1486 (by decide +kernel)).st g1503 (by decide +kernel)).st g1524 (by decide +kernel)).st g1545 (by decide +kernel)).st g1688 (by decide +kernel))), (fun dr hd => (Option.some.inj (d2.symm.trans hd)) ▸ hO1694), (Or.inr (⟨(by first | done | with_reducible assumption | omega), (by (try rw [c1696]); first | done | with_reducible assumption | omega), (by (try rw [c1699]); first | done | with_reducible assumption | omega), (by (try rw [c1701]); first | done | with_reducible assumption | omega), trivial⟩)), trivial⟩
          · skip
            exfalso; omega
      · skip
        refine q_iconst dX12_readTurner_41 (by decide) ?_
        intro v1714 h1715
        refine tr_goto 73 dX12_readTurner_42 (by decide) ?_
        refine tr_istore_n dX12_readTurner_73 (by decide) (by decide) ?_
        refine tr_iload_n dX12_readTurner_74 rfl ?_
        refine q_iconst dX12_readTurner_75 (by decide) ?_
        intro v1716 h1717
        refine q_icmp_ne 84 dX12_readTurner_76 (by decide) (fun h1718 => ?_) (fun h1718 => ?_)
        · skip
          refine sf_tuO hE hZ hS1528.1 (gB) ta0 (by (try rw [c1535]); first | done | with_reducible assumption | omega) ⟨_, d2⟩ rfl rfl rfl ?_
          rintro I1719 R1720 L1721 ⟨g1722, p1723, p1724, p1725, -⟩
          obtain rfl : R0 = R1720 := funext fun a => funext fun j => (g1722.2.2 a j (wm_no rfl)).symm
          have hS1726 := hS1528.tr g1722 (by decide +kernel) (by decide +kernel)
          have c1727 : I1719 a1 4 = v45 := (g1722.cell ta1 (by decide +kernel)).trans c1529
          have hO1728 : FrO 14 a1 T I0 I1719 := hO1532.st g1722 (by decide +kernel)
          obtain ⟨v1729, c1730⟩ : ∃ v, I1719 a0 9 = v := ⟨_, rfl⟩
          have b1731 := iv15_9 hS1726.1 ta0 c1730
          rw [c1730] at p1723
          obtain ⟨v1732, c1733⟩ : ∃ v, I1719 a0 13 = v := ⟨_, rfl⟩
          rw [c1733] at p1724
          rw [c1538] at p1724
          obtain ⟨v1734, c1735⟩ : ∃ v, I1719 a0 14 = v := ⟨_, rfl⟩
          rw [c1735] at p1725
          rw [c1540] at p1725
          have eF := hF.eq
          have eP := hP.eq
          obtain ⟨v1736, c1737⟩ : ∃ v, I1719 a0 10 = v := ⟨_, rfl⟩
          have b1738 := iv15_10 hS1726.1 ta0 c1737
          obtain ⟨v1739, c1740⟩ : ∃ v, I1719 a0 11 = v := ⟨_, rfl⟩
          obtain ⟨y1741, c1742⟩ : ∃ v, L1721 a0 15 = v := ⟨_, rfl⟩
          obtain ⟨v1743, c1744⟩ : ∃ v, I1719 a0 12 = v := ⟨_, rfl⟩
          obtain ⟨v1745, c1746⟩ : ∃ v, I1719 a0 8 = v := ⟨_, rfl⟩
          have b1747 := iv15_8 hS1726.1 ta0 c1746
          exact ⟨rfl, rfl, rfl, rfl, rfl, hS1726, (fun b hb => (Option.some.inj (d2.symm.trans hb)) ▸ ((((((FrM.rf (R := R0) (b := a1) (T := T)).st g83 (by decide +kernel)).st g1486 (by decide +kernel)).st g1503 (by decide +kernel)).st g1524 (by decide +kernel)).st g1722 (by decide +kernel))), (fun dr hd => (Option.some.inj (d2.symm.trans hd)) ▸ hO1728), (Or.inr (⟨(by first | done | with_reducible assumption | omega), (by (try rw [c1730]); first | done | with_reducible assumption | omega), (by (try rw [c1733]); first | done | with_reducible assumption | omega), (by (try rw [c1735]); first | done | with_reducible assumption | omega), trivial⟩)), trivial⟩
        · skip
          exfalso; omega
    · skip
      refine q_iconst dX12_readTurner_27 (by decide) ?_
      intro v1748 h1749
      refine tr_goto 73 dX12_readTurner_28 (by decide) ?_
      refine tr_istore_n dX12_readTurner_73 (by decide) (by decide) ?_
      refine tr_iload_n dX12_readTurner_74 rfl ?_
      refine q_iconst dX12_readTurner_75 (by decide) ?_
      intro v1750 h1751
      refine q_icmp_ne 84 dX12_readTurner_76 (by decide) (fun h1752 => ?_) (fun h1752 => ?_)
      · skip
        refine sf_tuO hE hZ hS1507.1 (gB) ta0 (by (try rw [c1514]); first | done | with_reducible assumption | omega) ⟨_, d2⟩ rfl rfl rfl ?_
        rintro I1753 R1754 L1755 ⟨g1756, p1757, p1758, p1759, -⟩
        obtain rfl : R0 = R1754 := funext fun a => funext fun j => (g1756.2.2 a j (wm_no rfl)).symm
        have hS1760 := hS1507.tr g1756 (by decide +kernel) (by decide +kernel)
        have c1761 : I1753 a1 4 = v45 := (g1756.cell ta1 (by decide +kernel)).trans c1508
        have hO1762 : FrO 14 a1 T I0 I1753 := hO1511.st g1756 (by decide +kernel)
        obtain ⟨v1763, c1764⟩ : ∃ v, I1753 a0 9 = v := ⟨_, rfl⟩
        have b1765 := iv15_9 hS1760.1 ta0 c1764
        rw [c1764] at p1757
        obtain ⟨v1766, c1767⟩ : ∃ v, I1753 a0 13 = v := ⟨_, rfl⟩
        rw [c1767] at p1758
        rw [c1517] at p1758
        obtain ⟨v1768, c1769⟩ : ∃ v, I1753 a0 14 = v := ⟨_, rfl⟩
        rw [c1769] at p1759
        rw [c1519] at p1759
        have eF := hF.eq
        have eP := hP.eq
        obtain ⟨v1770, c1771⟩ : ∃ v, I1753 a0 10 = v := ⟨_, rfl⟩
        have b1772 := iv15_10 hS1760.1 ta0 c1771
        obtain ⟨v1773, c1774⟩ : ∃ v, I1753 a0 11 = v := ⟨_, rfl⟩
        obtain ⟨y1775, c1776⟩ : ∃ v, L1755 a0 15 = v := ⟨_, rfl⟩
        obtain ⟨v1777, c1778⟩ : ∃ v, I1753 a0 12 = v := ⟨_, rfl⟩
        obtain ⟨v1779, c1780⟩ : ∃ v, I1753 a0 8 = v := ⟨_, rfl⟩
        have b1781 := iv15_8 hS1760.1 ta0 c1780
        exact ⟨rfl, rfl, rfl, rfl, rfl, hS1760, (fun b hb => (Option.some.inj (d2.symm.trans hb)) ▸ (((((FrM.rf (R := R0) (b := a1) (T := T)).st g83 (by decide +kernel)).st g1486 (by decide +kernel)).st g1503 (by decide +kernel)).st g1756 (by decide +kernel))), (fun dr hd => (Option.some.inj (d2.symm.trans hd)) ▸ hO1762), (Or.inr (⟨(by first | done | with_reducible assumption | omega), (by (try rw [c1764]); first | done | with_reducible assumption | omega), (by (try rw [c1767]); first | done | with_reducible assumption | omega), (by (try rw [c1769]); first | done | with_reducible assumption | omega), trivial⟩)), trivial⟩
      · skip
        exfalso; omega
  · skip
    obtain ⟨v1782, c1783⟩ : ∃ v, I80 a0 9 = v := ⟨_, rfl⟩
    have b1784 := iv15_9 hS88.1 ta0 c1783
    rw [c1783] at p108
    obtain ⟨v1785, c1786⟩ : ∃ v, I80 a0 13 = v := ⟨_, rfl⟩
    rw [c1786] at p109
    obtain ⟨v1787, c1788⟩ : ∃ v, I80 a0 14 = v := ⟨_, rfl⟩
    rw [c1788] at p110
    have p1789 := p61
    unfold Q7M at p1789
    replace hF := hF.neg (by omega)
    replace hP := hP.neg (by omega)
    replace hF := hF.pos (by omega)
    replace hP := hP.pos (by omega)
    clear p1789
    refine tr_aload_n dX12_readTurner_12 rfl ?_
    refine q_callVl hE (M' := mX12_readFresh) (as := []) dX12_readTurner_13 lk12_285 inX12_readFresh seX12_readFresh myX12_readFresh (by decide) ⟨by decide, by decide⟩ rfl (kR15 hS88.1 ta0) (Nat.le_of_ble_eq_true rfl) rfl rfl (by decide) (by decide) (k_X12_readFresh hS88.1 ta0 ⟨_, d2⟩) ?_
    rintro y1794 cn' K' N' I1790 R1791 L1792 ⟨rfl, rfl, rfl, rfl, g1793, w1795, -⟩
    have hS1796 := hS88.tr g1793 (by decide +kernel) (by decide +kernel)
    have c1797 : I1790 a1 4 = v45 := (g1793.cell ta1 (by decide +kernel)).trans c89
    have hO1798 : FrO 14 a1 T I0 I1790 := hO90.st g1793 (by decide +kernel)
    have ov1799 := w1795.over (by rw [c1783]; omega)
    obtain ⟨v1800, c1801⟩ : ∃ v, I1790 a0 9 = v := ⟨_, rfl⟩
    have b1802 := iv15_9 hS1796.1 ta0 c1801
    obtain ⟨v1803, c1804⟩ : ∃ v, I1790 a0 13 = v := ⟨_, rfl⟩
    obtain ⟨v1805, c1806⟩ : ∃ v, I1790 a0 14 = v := ⟨_, rfl⟩
    (try rw [c1801] at ov1799)
    (try rw [c1804] at ov1799)
    (try rw [c1806] at ov1799)
    (try rw [c1783] at ov1799)
    (try rw [c1786] at ov1799)
    (try rw [c1788] at ov1799)
    refine tr_lstore_n dX12_readTurner_16 (by decide) (by decide) (by decide) ?_
    refine tr_aload_n dX12_readTurner_17 rfl ?_
    refine tr_ldcwS dX12_readTurner_18 ld12_318 ?_
    refine q_callVi hE (M' := mX12_eatsWord) (as := [_]) dX12_readTurner_21 lk12_290 inX12_eatsWord seX12_eatsWord myX12_eatsWord (by decide) ⟨by decide, by decide⟩ rfl (kR15 hS1796.1 ta0) (Nat.le_of_ble_eq_true rfl) rfl rfl (by decide) (by decide) (k_X12_eatsWord hS1796.1 ta0 (by decide)) ?_
    rintro v1811 cn' K' N' I1807 R1808 L1809 ⟨rfl, rfl, rfl, rfl, g1810, h1812, w1813, -⟩
    have hS1814 := hS1796.tr g1810 (by decide +kernel) (by decide +kernel)
    have c1815 : I1807 a1 4 = v45 := (g1810.cell ta1 (by decide +kernel)).trans c1797
    have c1816 : I1807 a0 13 = v1803 := (g1810.cell ta0 (by decide +kernel)).trans c1804
    have c1817 : I1807 a0 14 = v1805 := (g1810.cell ta0 (by decide +kernel)).trans c1806
    have hO1818 : FrO 14 a1 T I0 I1807 := hO1798.st g1810 (by decide +kernel)
    have ov1819 := w1813.over (by rw [c1801]; omega)
    obtain ⟨v1820, c1821⟩ : ∃ v, I1807 a0 9 = v := ⟨_, rfl⟩
    have b1822 := iv15_9 hS1814.1 ta0 c1821
    obtain ⟨v1823, c1824⟩ : ∃ v, I1807 a0 13 = v := ⟨_, rfl⟩
    obtain ⟨v1825, c1826⟩ : ∃ v, I1807 a0 14 = v := ⟨_, rfl⟩
    (try rw [c1821] at ov1819)
    (try rw [c1824] at ov1819)
    (try rw [c1826] at ov1819)
    (try rw [c1801] at ov1819)
    (try rw [c1804] at ov1819)
    (try rw [c1806] at ov1819)
    refine q_if_eq 31 dX12_readTurner_24 (by decide) (fun h1827 => ?_) (fun h1827 => ?_)
    · skip
      refine tr_aload_n dX12_readTurner_31 rfl ?_
      refine tr_ldcwS dX12_readTurner_32 ld12_320 ?_
      refine q_callVi hE (M' := mX12_eatsWord) (as := [_]) dX12_readTurner_35 lk12_290 inX12_eatsWord seX12_eatsWord myX12_eatsWord (by decide) ⟨by decide, by decide⟩ rfl (kR15 hS1814.1 ta0) (Nat.le_of_ble_eq_true rfl) rfl rfl (by decide) (by decide) (k_X12_eatsWord hS1814.1 ta0 (by decide)) ?_
      rintro v1832 cn' K' N' I1828 R1829 L1830 ⟨rfl, rfl, rfl, rfl, g1831, h1833, w1834, -⟩
      have hS1835 := hS1814.tr g1831 (by decide +kernel) (by decide +kernel)
      have c1836 : I1828 a1 4 = v45 := (g1831.cell ta1 (by decide +kernel)).trans c1815
      have c1837 : I1828 a0 13 = v1823 := (g1831.cell ta0 (by decide +kernel)).trans c1824
      have c1838 : I1828 a0 14 = v1825 := (g1831.cell ta0 (by decide +kernel)).trans c1826
      have hO1839 : FrO 14 a1 T I0 I1828 := hO1818.st g1831 (by decide +kernel)
      have ov1840 := w1834.over (by rw [c1821]; omega)
      obtain ⟨v1841, c1842⟩ : ∃ v, I1828 a0 9 = v := ⟨_, rfl⟩
      have b1843 := iv15_9 hS1835.1 ta0 c1842
      obtain ⟨v1844, c1845⟩ : ∃ v, I1828 a0 13 = v := ⟨_, rfl⟩
      obtain ⟨v1846, c1847⟩ : ∃ v, I1828 a0 14 = v := ⟨_, rfl⟩
      (try rw [c1842] at ov1840)
      (try rw [c1845] at ov1840)
      (try rw [c1847] at ov1840)
      (try rw [c1821] at ov1840)
      (try rw [c1824] at ov1840)
      (try rw [c1826] at ov1840)
      refine q_if_eq 45 dX12_readTurner_38 (by decide) (fun h1848 => ?_) (fun h1848 => ?_)
      · skip
        refine tr_aload_n dX12_readTurner_45 rfl ?_
        refine tr_ldcwS dX12_readTurner_46 ld12_322 ?_
        refine q_callVi hE (M' := mX12_eatsWord) (as := [_]) dX12_readTurner_49 lk12_290 inX12_eatsWord seX12_eatsWord myX12_eatsWord (by decide) ⟨by decide, by decide⟩ rfl (kR15 hS1835.1 ta0) (Nat.le_of_ble_eq_true rfl) rfl rfl (by decide) (by decide) (k_X12_eatsWord hS1835.1 ta0 (by decide)) ?_
        rintro v1853 cn' K' N' I1849 R1850 L1851 ⟨rfl, rfl, rfl, rfl, g1852, h1854, w1855, -⟩
        have hS1856 := hS1835.tr g1852 (by decide +kernel) (by decide +kernel)
        have c1857 : I1849 a1 4 = v45 := (g1852.cell ta1 (by decide +kernel)).trans c1836
        have c1858 : I1849 a0 13 = v1844 := (g1852.cell ta0 (by decide +kernel)).trans c1845
        have c1859 : I1849 a0 14 = v1846 := (g1852.cell ta0 (by decide +kernel)).trans c1847
        have hO1860 : FrO 14 a1 T I0 I1849 := hO1839.st g1852 (by decide +kernel)
        have ov1861 := w1855.over (by rw [c1842]; omega)
        obtain ⟨v1862, c1863⟩ : ∃ v, I1849 a0 9 = v := ⟨_, rfl⟩
        have b1864 := iv15_9 hS1856.1 ta0 c1863
        obtain ⟨v1865, c1866⟩ : ∃ v, I1849 a0 13 = v := ⟨_, rfl⟩
        obtain ⟨v1867, c1868⟩ : ∃ v, I1849 a0 14 = v := ⟨_, rfl⟩
        (try rw [c1863] at ov1861)
        (try rw [c1866] at ov1861)
        (try rw [c1868] at ov1861)
        (try rw [c1842] at ov1861)
        (try rw [c1845] at ov1861)
        (try rw [c1847] at ov1861)
        refine q_if_eq 59 dX12_readTurner_52 (by decide) (fun h1869 => ?_) (fun h1869 => ?_)
        · skip
          refine tr_aload_n dX12_readTurner_59 rfl ?_
          refine tr_ldcS dX12_readTurner_60 ld12_178 ?_
          refine q_callVi hE (M' := mX12_eatsWord) (as := [_]) dX12_readTurner_62 lk12_290 inX12_eatsWord seX12_eatsWord myX12_eatsWord (by decide) ⟨by decide, by decide⟩ rfl (kR15 hS1856.1 ta0) (Nat.le_of_ble_eq_true rfl) rfl rfl (by decide) (by decide) (k_X12_eatsWord hS1856.1 ta0 (by decide)) ?_
          rintro v1874 cn' K' N' I1870 R1871 L1872 ⟨rfl, rfl, rfl, rfl, g1873, h1875, w1876, -⟩
          have hS1877 := hS1856.tr g1873 (by decide +kernel) (by decide +kernel)
          have c1878 : I1870 a1 4 = v45 := (g1873.cell ta1 (by decide +kernel)).trans c1857
          have c1879 : I1870 a0 13 = v1865 := (g1873.cell ta0 (by decide +kernel)).trans c1866
          have c1880 : I1870 a0 14 = v1867 := (g1873.cell ta0 (by decide +kernel)).trans c1868
          have hO1881 : FrO 14 a1 T I0 I1870 := hO1860.st g1873 (by decide +kernel)
          have ov1882 := w1876.over (by rw [c1863]; omega)
          obtain ⟨v1883, c1884⟩ : ∃ v, I1870 a0 9 = v := ⟨_, rfl⟩
          have b1885 := iv15_9 hS1877.1 ta0 c1884
          obtain ⟨v1886, c1887⟩ : ∃ v, I1870 a0 13 = v := ⟨_, rfl⟩
          obtain ⟨v1888, c1889⟩ : ∃ v, I1870 a0 14 = v := ⟨_, rfl⟩
          (try rw [c1884] at ov1882)
          (try rw [c1887] at ov1882)
          (try rw [c1889] at ov1882)
          (try rw [c1863] at ov1882)
          (try rw [c1866] at ov1882)
          (try rw [c1868] at ov1882)
          refine q_if_eq 72 dX12_readTurner_65 (by decide) (fun h1890 => ?_) (fun h1890 => ?_)
          · skip
            refine q_iconst dX12_readTurner_72 (by decide) ?_
            intro v1891 h1892
            refine tr_istore_n dX12_readTurner_73 (by decide) (by decide) ?_
            refine tr_iload_n dX12_readTurner_74 rfl ?_
            refine q_iconst dX12_readTurner_75 (by decide) ?_
            intro v1893 h1894
            refine q_icmp_ne 84 dX12_readTurner_76 (by decide) (fun h1895 => ?_) (fun h1895 => ?_)
            · skip
              exfalso; omega
            · skip
              refine tr_aload_n dX12_readTurner_79 rfl ?_
              refine q_iconst dX12_readTurner_80 (by decide) ?_
              intro v1896 h1897
              obtain ⟨v1898, c1899⟩ : ∃ v, I1870 a0 8 = v := ⟨_, rfl⟩
              have b1900 := iv15_8 hS1877.1 ta0 c1899
              refine q_callVv hE (M' := mX12_flaw) (as := [_]) dX12_readTurner_81 lk12_145 inX12_flaw seX12_flaw myX12_flaw (by decide) ⟨by decide, by decide⟩ rfl (kR15 hS1877.1 ta0) (Nat.le_of_ble_eq_true rfl) rfl rfl (by decide) (by decide) (k_X12_flaw hS1877.1 ta0 (by omega)) ?_
              rintro cn' K' N' I1901 R1902 L1903 ⟨rfl, rfl, rfl, rfl, rfl, g1904, p1906, p1907, w1908, -⟩
              have hS1909 := hS1877.tr g1904 (by decide +kernel) (by decide +kernel)
              have c1910 : I1901 a1 4 = v45 := (g1904.cell ta1 (by decide +kernel)).trans c1878
              have c1911 : I1901 a0 8 = v1898 := (g1904.cell ta0 (by decide +kernel)).trans c1899
              obtain ⟨v1912, c1913⟩ : ∃ v, I1901 a0 9 = v := ⟨_, rfl⟩
              have b1914 := iv15_9 hS1909.1 ta0 c1913
              rw [c1913] at p1906
              rw [c1911] at p1907
              rw [c1899] at p1907
              have hO1915 : FrO 14 a1 T I0 I1901 := hO1881.st g1904 (by decide +kernel)
              have ov1916 := w1908.over (by rw [c1884]; omega)
              obtain ⟨v1917, c1918⟩ : ∃ v, I1901 a0 9 = v := ⟨_, rfl⟩
              have b1919 := iv15_9 hS1909.1 ta0 c1918
              obtain ⟨v1920, c1921⟩ : ∃ v, I1901 a0 13 = v := ⟨_, rfl⟩
              obtain ⟨v1922, c1923⟩ : ∃ v, I1901 a0 14 = v := ⟨_, rfl⟩
              (try rw [c1918] at ov1916)
              (try rw [c1921] at ov1916)
              (try rw [c1923] at ov1916)
              (try rw [c1884] at ov1916)
              (try rw [c1887] at ov1916)
              (try rw [c1889] at ov1916)
              refine sf_tuO hE hZ hS1909.1 (gB) ta0 (by (try rw [c1918]); first | done | with_reducible assumption | omega) ⟨_, d2⟩ rfl rfl rfl ?_
              rintro I1924 R1925 L1926 ⟨g1927, p1928, p1929, p1930, -⟩
              obtain rfl : R0 = R1925 := funext fun a => funext fun j => (g1927.2.2 a j (wm_no rfl)).symm
              have hS1931 := hS1909.tr g1927 (by decide +kernel) (by decide +kernel)
              have c1932 : I1924 a1 4 = v45 := (g1927.cell ta1 (by decide +kernel)).trans c1910
              have hO1933 : FrO 14 a1 T I0 I1924 := hO1915.st g1927 (by decide +kernel)
              obtain ⟨v1934, c1935⟩ : ∃ v, I1924 a0 9 = v := ⟨_, rfl⟩
              have b1936 := iv15_9 hS1931.1 ta0 c1935
              rw [c1935] at p1928
              obtain ⟨v1937, c1938⟩ : ∃ v, I1924 a0 13 = v := ⟨_, rfl⟩
              rw [c1938] at p1929
              rw [c1921] at p1929
              obtain ⟨v1939, c1940⟩ : ∃ v, I1924 a0 14 = v := ⟨_, rfl⟩
              rw [c1940] at p1930
              rw [c1923] at p1930
              have eF := hF.eq
              have eP := hP.eq
              obtain ⟨v1941, c1942⟩ : ∃ v, I1924 a0 10 = v := ⟨_, rfl⟩
              have b1943 := iv15_10 hS1931.1 ta0 c1942
              obtain ⟨v1944, c1945⟩ : ∃ v, I1924 a0 11 = v := ⟨_, rfl⟩
              obtain ⟨y1946, c1947⟩ : ∃ v, L1926 a0 15 = v := ⟨_, rfl⟩
              obtain ⟨v1948, c1949⟩ : ∃ v, I1924 a0 12 = v := ⟨_, rfl⟩
              obtain ⟨v1950, c1951⟩ : ∃ v, I1924 a0 8 = v := ⟨_, rfl⟩
              have b1952 := iv15_8 hS1931.1 ta0 c1951
              exact ⟨rfl, rfl, rfl, rfl, rfl, hS1931, (fun b hb => (Option.some.inj (d2.symm.trans hb)) ▸ (((((((((FrM.rf (R := R0) (b := a1) (T := T)).st g83 (by decide +kernel)).st g1793 (by decide +kernel)).st g1810 (by decide +kernel)).st g1831 (by decide +kernel)).st g1852 (by decide +kernel)).st g1873 (by decide +kernel)).st g1904 (by decide +kernel)).st g1927 (by decide +kernel))), (fun dr hd => (Option.some.inj (d2.symm.trans hd)) ▸ hO1933), (Or.inr (⟨(by first | done | with_reducible assumption | omega), (by (try rw [c1935]); first | done | with_reducible assumption | omega), (by (try rw [c1938]); first | done | with_reducible assumption | omega), (by (try rw [c1940]); first | done | with_reducible assumption | omega), trivial⟩)), trivial⟩
          · skip
            refine q_iconst dX12_readTurner_68 (by decide) ?_
            intro v1953 h1954
            refine tr_goto 73 dX12_readTurner_69 (by decide) ?_
            refine tr_istore_n dX12_readTurner_73 (by decide) (by decide) ?_
            refine tr_iload_n dX12_readTurner_74 rfl ?_
            refine q_iconst dX12_readTurner_75 (by decide) ?_
            intro v1955 h1956
            refine q_icmp_ne 84 dX12_readTurner_76 (by decide) (fun h1957 => ?_) (fun h1957 => ?_)
            · skip
              refine sf_tuO hE hZ hS1877.1 (gB) ta0 (by (try rw [c1884]); first | done | with_reducible assumption | omega) ⟨_, d2⟩ rfl rfl rfl ?_
              rintro I1958 R1959 L1960 ⟨g1961, p1962, p1963, p1964, -⟩
              obtain rfl : R0 = R1959 := funext fun a => funext fun j => (g1961.2.2 a j (wm_no rfl)).symm
              have hS1965 := hS1877.tr g1961 (by decide +kernel) (by decide +kernel)
              have c1966 : I1958 a1 4 = v45 := (g1961.cell ta1 (by decide +kernel)).trans c1878
              have hO1967 : FrO 14 a1 T I0 I1958 := hO1881.st g1961 (by decide +kernel)
              obtain ⟨v1968, c1969⟩ : ∃ v, I1958 a0 9 = v := ⟨_, rfl⟩
              have b1970 := iv15_9 hS1965.1 ta0 c1969
              rw [c1969] at p1962
              obtain ⟨v1971, c1972⟩ : ∃ v, I1958 a0 13 = v := ⟨_, rfl⟩
              rw [c1972] at p1963
              rw [c1887] at p1963
              obtain ⟨v1973, c1974⟩ : ∃ v, I1958 a0 14 = v := ⟨_, rfl⟩
              rw [c1974] at p1964
              rw [c1889] at p1964
              have eF := hF.eq
              have eP := hP.eq
              obtain ⟨v1975, c1976⟩ : ∃ v, I1958 a0 10 = v := ⟨_, rfl⟩
              have b1977 := iv15_10 hS1965.1 ta0 c1976
              obtain ⟨v1978, c1979⟩ : ∃ v, I1958 a0 11 = v := ⟨_, rfl⟩
              obtain ⟨y1980, c1981⟩ : ∃ v, L1960 a0 15 = v := ⟨_, rfl⟩
              obtain ⟨v1982, c1983⟩ : ∃ v, I1958 a0 12 = v := ⟨_, rfl⟩
              obtain ⟨v1984, c1985⟩ : ∃ v, I1958 a0 8 = v := ⟨_, rfl⟩
              have b1986 := iv15_8 hS1965.1 ta0 c1985
              exact ⟨rfl, rfl, rfl, rfl, rfl, hS1965, (fun b hb => (Option.some.inj (d2.symm.trans hb)) ▸ ((((((((FrM.rf (R := R0) (b := a1) (T := T)).st g83 (by decide +kernel)).st g1793 (by decide +kernel)).st g1810 (by decide +kernel)).st g1831 (by decide +kernel)).st g1852 (by decide +kernel)).st g1873 (by decide +kernel)).st g1961 (by decide +kernel))), (fun dr hd => (Option.some.inj (d2.symm.trans hd)) ▸ hO1967), (Or.inr (⟨(by first | done | with_reducible assumption | omega), (by (try rw [c1969]); first | done | with_reducible assumption | omega), (by (try rw [c1972]); first | done | with_reducible assumption | omega), (by (try rw [c1974]); first | done | with_reducible assumption | omega), trivial⟩)), trivial⟩
            · skip
              exfalso; omega
        · skip
          refine q_iconst dX12_readTurner_55 (by decide) ?_
          intro v1987 h1988
          refine tr_goto 73 dX12_readTurner_56 (by decide) ?_
          refine tr_istore_n dX12_readTurner_73 (by decide) (by decide) ?_
          refine tr_iload_n dX12_readTurner_74 rfl ?_
          refine q_iconst dX12_readTurner_75 (by decide) ?_
          intro v1989 h1990
          refine q_icmp_ne 84 dX12_readTurner_76 (by decide) (fun h1991 => ?_) (fun h1991 => ?_)
          · skip
            refine sf_tuO hE hZ hS1856.1 (gB) ta0 (by (try rw [c1863]); first | done | with_reducible assumption | omega) ⟨_, d2⟩ rfl rfl rfl ?_
            rintro I1992 R1993 L1994 ⟨g1995, p1996, p1997, p1998, -⟩
            obtain rfl : R0 = R1993 := funext fun a => funext fun j => (g1995.2.2 a j (wm_no rfl)).symm
            have hS1999 := hS1856.tr g1995 (by decide +kernel) (by decide +kernel)
            have c2000 : I1992 a1 4 = v45 := (g1995.cell ta1 (by decide +kernel)).trans c1857
            have hO2001 : FrO 14 a1 T I0 I1992 := hO1860.st g1995 (by decide +kernel)
            obtain ⟨v2002, c2003⟩ : ∃ v, I1992 a0 9 = v := ⟨_, rfl⟩
            have b2004 := iv15_9 hS1999.1 ta0 c2003
            rw [c2003] at p1996
            obtain ⟨v2005, c2006⟩ : ∃ v, I1992 a0 13 = v := ⟨_, rfl⟩
            rw [c2006] at p1997
            rw [c1866] at p1997
            obtain ⟨v2007, c2008⟩ : ∃ v, I1992 a0 14 = v := ⟨_, rfl⟩
            rw [c2008] at p1998
            rw [c1868] at p1998
            have eF := hF.eq
            have eP := hP.eq
            obtain ⟨v2009, c2010⟩ : ∃ v, I1992 a0 10 = v := ⟨_, rfl⟩
            have b2011 := iv15_10 hS1999.1 ta0 c2010
            obtain ⟨v2012, c2013⟩ : ∃ v, I1992 a0 11 = v := ⟨_, rfl⟩
            obtain ⟨y2014, c2015⟩ : ∃ v, L1994 a0 15 = v := ⟨_, rfl⟩
            obtain ⟨v2016, c2017⟩ : ∃ v, I1992 a0 12 = v := ⟨_, rfl⟩
            obtain ⟨v2018, c2019⟩ : ∃ v, I1992 a0 8 = v := ⟨_, rfl⟩
            have b2020 := iv15_8 hS1999.1 ta0 c2019
            exact ⟨rfl, rfl, rfl, rfl, rfl, hS1999, (fun b hb => (Option.some.inj (d2.symm.trans hb)) ▸ (((((((FrM.rf (R := R0) (b := a1) (T := T)).st g83 (by decide +kernel)).st g1793 (by decide +kernel)).st g1810 (by decide +kernel)).st g1831 (by decide +kernel)).st g1852 (by decide +kernel)).st g1995 (by decide +kernel))), (fun dr hd => (Option.some.inj (d2.symm.trans hd)) ▸ hO2001), (Or.inr (⟨(by first | done | with_reducible assumption | omega), (by (try rw [c2003]); first | done | with_reducible assumption | omega), (by (try rw [c2006]); first | done | with_reducible assumption | omega), (by (try rw [c2008]); first | done | with_reducible assumption | omega), trivial⟩)), trivial⟩
          · skip
            exfalso; omega
      · skip
        refine q_iconst dX12_readTurner_41 (by decide) ?_
        intro v2021 h2022
        refine tr_goto 73 dX12_readTurner_42 (by decide) ?_
        refine tr_istore_n dX12_readTurner_73 (by decide) (by decide) ?_
        refine tr_iload_n dX12_readTurner_74 rfl ?_
        refine q_iconst dX12_readTurner_75 (by decide) ?_
        intro v2023 h2024
        refine q_icmp_ne 84 dX12_readTurner_76 (by decide) (fun h2025 => ?_) (fun h2025 => ?_)
        · skip
          refine sf_tuO hE hZ hS1835.1 (gB) ta0 (by (try rw [c1842]); first | done | with_reducible assumption | omega) ⟨_, d2⟩ rfl rfl rfl ?_
          rintro I2026 R2027 L2028 ⟨g2029, p2030, p2031, p2032, -⟩
          obtain rfl : R0 = R2027 := funext fun a => funext fun j => (g2029.2.2 a j (wm_no rfl)).symm
          have hS2033 := hS1835.tr g2029 (by decide +kernel) (by decide +kernel)
          have c2034 : I2026 a1 4 = v45 := (g2029.cell ta1 (by decide +kernel)).trans c1836
          have hO2035 : FrO 14 a1 T I0 I2026 := hO1839.st g2029 (by decide +kernel)
          obtain ⟨v2036, c2037⟩ : ∃ v, I2026 a0 9 = v := ⟨_, rfl⟩
          have b2038 := iv15_9 hS2033.1 ta0 c2037
          rw [c2037] at p2030
          obtain ⟨v2039, c2040⟩ : ∃ v, I2026 a0 13 = v := ⟨_, rfl⟩
          rw [c2040] at p2031
          rw [c1845] at p2031
          obtain ⟨v2041, c2042⟩ : ∃ v, I2026 a0 14 = v := ⟨_, rfl⟩
          rw [c2042] at p2032
          rw [c1847] at p2032
          have eF := hF.eq
          have eP := hP.eq
          obtain ⟨v2043, c2044⟩ : ∃ v, I2026 a0 10 = v := ⟨_, rfl⟩
          have b2045 := iv15_10 hS2033.1 ta0 c2044
          obtain ⟨v2046, c2047⟩ : ∃ v, I2026 a0 11 = v := ⟨_, rfl⟩
          obtain ⟨y2048, c2049⟩ : ∃ v, L2028 a0 15 = v := ⟨_, rfl⟩
          obtain ⟨v2050, c2051⟩ : ∃ v, I2026 a0 12 = v := ⟨_, rfl⟩
          obtain ⟨v2052, c2053⟩ : ∃ v, I2026 a0 8 = v := ⟨_, rfl⟩
          have b2054 := iv15_8 hS2033.1 ta0 c2053
          exact ⟨rfl, rfl, rfl, rfl, rfl, hS2033, (fun b hb => (Option.some.inj (d2.symm.trans hb)) ▸ ((((((FrM.rf (R := R0) (b := a1) (T := T)).st g83 (by decide +kernel)).st g1793 (by decide +kernel)).st g1810 (by decide +kernel)).st g1831 (by decide +kernel)).st g2029 (by decide +kernel))), (fun dr hd => (Option.some.inj (d2.symm.trans hd)) ▸ hO2035), (Or.inr (⟨(by first | done | with_reducible assumption | omega), (by (try rw [c2037]); first | done | with_reducible assumption | omega), (by (try rw [c2040]); first | done | with_reducible assumption | omega), (by (try rw [c2042]); first | done | with_reducible assumption | omega), trivial⟩)), trivial⟩
        · skip
          exfalso; omega
    · skip
      refine q_iconst dX12_readTurner_27 (by decide) ?_
      intro v2055 h2056
      refine tr_goto 73 dX12_readTurner_28 (by decide) ?_
      refine tr_istore_n dX12_readTurner_73 (by decide) (by decide) ?_
      refine tr_iload_n dX12_readTurner_74 rfl ?_
      refine q_iconst dX12_readTurner_75 (by decide) ?_
      intro v2057 h2058
      refine q_icmp_ne 84 dX12_readTurner_76 (by decide) (fun h2059 => ?_) (fun h2059 => ?_)
      · skip
        refine sf_tuO hE hZ hS1814.1 (gB) ta0 (by (try rw [c1821]); first | done | with_reducible assumption | omega) ⟨_, d2⟩ rfl rfl rfl ?_
        rintro I2060 R2061 L2062 ⟨g2063, p2064, p2065, p2066, -⟩
        obtain rfl : R0 = R2061 := funext fun a => funext fun j => (g2063.2.2 a j (wm_no rfl)).symm
        have hS2067 := hS1814.tr g2063 (by decide +kernel) (by decide +kernel)
        have c2068 : I2060 a1 4 = v45 := (g2063.cell ta1 (by decide +kernel)).trans c1815
        have hO2069 : FrO 14 a1 T I0 I2060 := hO1818.st g2063 (by decide +kernel)
        obtain ⟨v2070, c2071⟩ : ∃ v, I2060 a0 9 = v := ⟨_, rfl⟩
        have b2072 := iv15_9 hS2067.1 ta0 c2071
        rw [c2071] at p2064
        obtain ⟨v2073, c2074⟩ : ∃ v, I2060 a0 13 = v := ⟨_, rfl⟩
        rw [c2074] at p2065
        rw [c1824] at p2065
        obtain ⟨v2075, c2076⟩ : ∃ v, I2060 a0 14 = v := ⟨_, rfl⟩
        rw [c2076] at p2066
        rw [c1826] at p2066
        have eF := hF.eq
        have eP := hP.eq
        obtain ⟨v2077, c2078⟩ : ∃ v, I2060 a0 10 = v := ⟨_, rfl⟩
        have b2079 := iv15_10 hS2067.1 ta0 c2078
        obtain ⟨v2080, c2081⟩ : ∃ v, I2060 a0 11 = v := ⟨_, rfl⟩
        obtain ⟨y2082, c2083⟩ : ∃ v, L2062 a0 15 = v := ⟨_, rfl⟩
        obtain ⟨v2084, c2085⟩ : ∃ v, I2060 a0 12 = v := ⟨_, rfl⟩
        obtain ⟨v2086, c2087⟩ : ∃ v, I2060 a0 8 = v := ⟨_, rfl⟩
        have b2088 := iv15_8 hS2067.1 ta0 c2087
        exact ⟨rfl, rfl, rfl, rfl, rfl, hS2067, (fun b hb => (Option.some.inj (d2.symm.trans hb)) ▸ (((((FrM.rf (R := R0) (b := a1) (T := T)).st g83 (by decide +kernel)).st g1793 (by decide +kernel)).st g1810 (by decide +kernel)).st g2063 (by decide +kernel))), (fun dr hd => (Option.some.inj (d2.symm.trans hd)) ▸ hO2069), (Or.inr (⟨(by first | done | with_reducible assumption | omega), (by (try rw [c2071]); first | done | with_reducible assumption | omega), (by (try rw [c2074]); first | done | with_reducible assumption | omega), (by (try rw [c2076]); first | done | with_reducible assumption | omega), trivial⟩)), trivial⟩
      · skip
        exfalso; omega
