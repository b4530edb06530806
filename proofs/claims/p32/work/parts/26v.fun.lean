def wif_tuO : List Nat := [968, 969, 970, 971, 972, 973, 974]
def wrf_tuO : List Nat := []
def wlf_tuO : List Nat := []
set_option maxHeartbeats 4000000 in
theorem sf_tuO {X : cz_X} (hE : cz_env X) {T : Nat → Nat} {cn : Nat} {K N : Nat → Nat} {I0 : cz_I} {R0 : cz_R} {L0 : cz_L} {Q : cz_Q} (hZ : cz_Z X mX12_readTurner Q) (hW0 : Wf T cn K N I0 R0 0) (gB : cz_B) {a0 : Nat} (ta0 : T a0 = 15) {y1 : Int64} {x2 : Int32} (pre0 : (I0 a0 9).toInt = 5) (nn4 : ∃ b, R0 a0 4 = some b) {ls : Nat → Option Value} (hl0 : ls 0 = some (.ref a0)) (hl1 : ls 1 = some (.long y1)) (hl3 : ls 3 = some (.int x2)) (hq : ∀ (I' : cz_I) (R' : cz_R) (L' : cz_L), St T cn K N 0 wif_tuO wrf_tuO I0 R0 I' R' ∧ ((I' a0 9).toInt = 5) ∧ ((I' a0 13).toInt = (I0 a0 13).toInt) ∧ ((I' a0 14).toInt = (I0 a0 14).toInt) ∧ True → Q none cn K N I' R' L') : Tr X mX12_readTurner 84 ls [] cn K N I0 R0 L0 0 0 := by
  have hS0 : St T cn K N 0 wif_tuO wrf_tuO I0 R0 I0 R0 := St.rf0 hW0
  have hL0 : LgS T wlf_tuO L0 L0 := LgS.rf0
  obtain ⟨a1, d2⟩ := nn4
  have ta1 : T a1 = 14 := hW0.rsN ta0 rfl d2
  obtain ⟨v3, c4⟩ : ∃ v, I0 a0 9 = v := ⟨_, rfl⟩
  have b5 := iv15_9 hS0.1 ta0 c4
  have p6 := pre0
  rw [c4] at p6
  obtain ⟨v7, c8⟩ : ∃ v, I0 a0 13 = v := ⟨_, rfl⟩
  obtain ⟨v9, c10⟩ : ∃ v, I0 a0 14 = v := ⟨_, rfl⟩
  refine tr_aload_n dX12_readTurner_84 hl0 ?_
  refine tr_ldcwS dX12_readTurner_85 ld12_324 ?_
  refine q_iconst dX12_readTurner_88 (by decide) ?_
  intro v11 h12
  refine tr_aload_n dX12_readTurner_89 hl0 ?_
  refine tr_getR dX12_readTurner_90 fl12_188 (kR15 hS0.1 ta0) d2 ?_
  obtain ⟨v13, c14⟩ : ∃ v, I0 a1 0 = v := ⟨_, rfl⟩
  have b15 := iv14_0 hW0 ta1 c14
  refine q_getI dX12_readTurner_93 fl12_192 (kR14 hS0.1 ta1) c14 ?_
  refine q_iconst dX12_readTurner_96 (by decide) ?_
  intro v16 h17
  refine q_isubE dX12_readTurner_97 (by intros; omega) ?_
  intro v18 h19
  refine q_callVi hE (M' := mX12_readPart) (as := [_, _, _]) dX12_readTurner_98 lk12_249 inX12_readPart seX12_readPart myX12_readPart (by decide) ⟨by decide, by decide⟩ rfl (kR15 hS0.1 ta0) (Nat.le_of_ble_eq_true rfl) rfl rfl (by decide) (by decide) (k_X12_readPart hS0.1 ta0 (by decide)) ?_
  rintro v24 cn' K' N' I20 R21 L22 ⟨rfl, rfl, rfl, rfl, g23, p25, w26, -⟩
  have hS27 := hS0.tr g23 (by decide +kernel) (by decide +kernel)
  have b28 : 0 ≤ v24.toInt ∧ v24.toInt ≤ 239 := by omega
  clear p25
  have ov29 := w26.over (by rw [c4]; omega)
  obtain ⟨v30, c31⟩ : ∃ v, I20 a0 9 = v := ⟨_, rfl⟩
  have b32 := iv15_9 hS27.1 ta0 c31
  obtain ⟨v33, c34⟩ : ∃ v, I20 a0 13 = v := ⟨_, rfl⟩
  obtain ⟨v35, c36⟩ : ∃ v, I20 a0 14 = v := ⟨_, rfl⟩
  (try rw [c31] at ov29)
  (try rw [c34] at ov29)
  (try rw [c36] at ov29)
  (try rw [c4] at ov29)
  (try rw [c8] at ov29)
  (try rw [c10] at ov29)
  refine tr_istore dX12_readTurner_101 (by decide) (by decide) ?_
  refine tr_aload_n dX12_readTurner_103 hl0 ?_
  refine tr_ldcwS dX12_readTurner_104 ld12_272 ?_
  refine tr_iload dX12_readTurner_107 rfl ?_
  refine q_iconst dX12_readTurner_109 (by decide) ?_
  intro v37 h38
  refine q_iaddE dX12_readTurner_110 (by intros; omega) ?_
  intro v39 h40
  refine tr_aload_n dX12_readTurner_111 hl0 ?_
  refine tr_getR dX12_readTurner_112 fl12_188 (kR15 hS27.1 ta0) d2 ?_
  refine q_getI dX12_readTurner_115 fl12_192 (kR14 hS27.1 ta1) ((hS27.cell ta1 (by decide +kernel)).trans c14) ?_
  refine q_callVi hE (M' := mX12_readPart) (as := [_, _, _]) dX12_readTurner_118 lk12_249 inX12_readPart seX12_readPart myX12_readPart (by decide) ⟨by decide, by decide⟩ rfl (kR15 hS27.1 ta0) (Nat.le_of_ble_eq_true rfl) rfl rfl (by decide) (by decide) (k_X12_readPart hS27.1 ta0 (by decide)) ?_
  rintro v45 cn' K' N' I41 R42 L43 ⟨rfl, rfl, rfl, rfl, g44, p46, w47, -⟩
  have hS48 := hS27.tr g44 (by decide +kernel) (by decide +kernel)
  have b49 : 1 ≤ v45.toInt ∧ v45.toInt ≤ 240 := by omega
  clear p46
  have ov50 := w47.over (by rw [c31]; omega)
  obtain ⟨v51, c52⟩ : ∃ v, I41 a0 9 = v := ⟨_, rfl⟩
  have b53 := iv15_9 hS48.1 ta0 c52
  obtain ⟨v54, c55⟩ : ∃ v, I41 a0 13 = v := ⟨_, rfl⟩
  obtain ⟨v56, c57⟩ : ∃ v, I41 a0 14 = v := ⟨_, rfl⟩
  (try rw [c52] at ov50)
  (try rw [c55] at ov50)
  (try rw [c57] at ov50)
  (try rw [c31] at ov50)
  (try rw [c34] at ov50)
  (try rw [c36] at ov50)
  refine tr_istore dX12_readTurner_121 (by decide) (by decide) ?_
  refine tr_aload_n dX12_readTurner_123 hl0 ?_
  refine tr_ldcwS dX12_readTurner_124 ld12_325 ?_
  refine q_iconst dX12_readTurner_127 (by decide) ?_
  intro v58 h59
  refine q_bipush dX12_readTurner_128 (by decide +kernel) ?_
  intro v60 h61
  refine q_callVi hE (M' := mX12_readPart) (as := [_, _, _]) dX12_readTurner_130 lk12_249 inX12_readPart seX12_readPart myX12_readPart (by decide) ⟨by decide, by decide⟩ rfl (kR15 hS48.1 ta0) (Nat.le_of_ble_eq_true rfl) rfl rfl (by decide) (by decide) (k_X12_readPart hS48.1 ta0 (by decide)) ?_
  rintro v66 cn' K' N' I62 R63 L64 ⟨rfl, rfl, rfl, rfl, g65, p67, w68, -⟩
  have hS69 := hS48.tr g65 (by decide +kernel) (by decide +kernel)
  have b70 : 1 ≤ v66.toInt ∧ v66.toInt ≤ 8 := by omega
  clear p67
  have ov71 := w68.over (by rw [c52]; omega)
  obtain ⟨v72, c73⟩ : ∃ v, I62 a0 9 = v := ⟨_, rfl⟩
  have b74 := iv15_9 hS69.1 ta0 c73
  obtain ⟨v75, c76⟩ : ∃ v, I62 a0 13 = v := ⟨_, rfl⟩
  obtain ⟨v77, c78⟩ : ∃ v, I62 a0 14 = v := ⟨_, rfl⟩
  (try rw [c73] at ov71)
  (try rw [c76] at ov71)
  (try rw [c78] at ov71)
  (try rw [c52] at ov71)
  (try rw [c55] at ov71)
  (try rw [c57] at ov71)
  refine tr_istore dX12_readTurner_133 (by decide) (by decide) ?_
  refine tr_aload_n dX12_readTurner_135 hl0 ?_
  refine tr_ldcwS dX12_readTurner_136 ld12_327 ?_
  refine q_iconst dX12_readTurner_139 (by decide) ?_
  intro v79 h80
  refine q_bipush dX12_readTurner_140 (by decide +kernel) ?_
  intro v81 h82
  refine q_callVi hE (M' := mX12_readPart) (as := [_, _, _]) dX12_readTurner_142 lk12_249 inX12_readPart seX12_readPart myX12_readPart (by decide) ⟨by decide, by decide⟩ rfl (kR15 hS69.1 ta0) (Nat.le_of_ble_eq_true rfl) rfl rfl (by decide) (by decide) (k_X12_readPart hS69.1 ta0 (by decide)) ?_
  rintro v87 cn' K' N' I83 R84 L85 ⟨rfl, rfl, rfl, rfl, g86, p88, w89, -⟩
  have hS90 := hS69.tr g86 (by decide +kernel) (by decide +kernel)
  have b91 : 1 ≤ v87.toInt ∧ v87.toInt ≤ 20 := by omega
  clear p88
  have ov92 := w89.over (by rw [c73]; omega)
  obtain ⟨v93, c94⟩ : ∃ v, I83 a0 9 = v := ⟨_, rfl⟩
  have b95 := iv15_9 hS90.1 ta0 c94
  obtain ⟨v96, c97⟩ : ∃ v, I83 a0 13 = v := ⟨_, rfl⟩
  obtain ⟨v98, c99⟩ : ∃ v, I83 a0 14 = v := ⟨_, rfl⟩
  (try rw [c94] at ov92)
  (try rw [c97] at ov92)
  (try rw [c99] at ov92)
  (try rw [c73] at ov92)
  (try rw [c76] at ov92)
  (try rw [c78] at ov92)
  refine tr_istore dX12_readTurner_145 (by decide) (by decide) ?_
  refine tr_aload_n dX12_readTurner_147 hl0 ?_
  refine tr_ldcS dX12_readTurner_148 ld12_253 ?_
  refine q_callVv hE (M' := mX12_needs) (as := [_]) dX12_readTurner_150 lk12_157 inX12_needs seX12_needs myX12_needs (by decide) ⟨by decide, by decide⟩ rfl (kR15 hS90.1 ta0) (Nat.le_of_ble_eq_true rfl) rfl rfl (by decide) (by decide) (k_X12_needs hS90.1 ta0 (by decide)) ?_
  rintro cn' K' N' I100 R101 L102 ⟨rfl, rfl, rfl, rfl, g103, w105, -⟩
  have hS106 := hS90.tr g103 (by decide +kernel) (by decide +kernel)
  have ov107 := w105.over (by rw [c94]; omega)
  obtain ⟨v108, c109⟩ : ∃ v, I100 a0 9 = v := ⟨_, rfl⟩
  have b110 := iv15_9 hS106.1 ta0 c109
  obtain ⟨v111, c112⟩ : ∃ v, I100 a0 13 = v := ⟨_, rfl⟩
  obtain ⟨v113, c114⟩ : ∃ v, I100 a0 14 = v := ⟨_, rfl⟩
  (try rw [c109] at ov107)
  (try rw [c112] at ov107)
  (try rw [c114] at ov107)
  (try rw [c94] at ov107)
  (try rw [c97] at ov107)
  (try rw [c99] at ov107)
  refine q_iconst dX12_readTurner_153 (by decide) ?_
  intro v115 h116
  refine tr_istore dX12_readTurner_154 (by decide) (by decide) ?_
  refine q_iconst dX12_readTurner_156 (by decide) ?_
  intro v117 h118
  refine tr_istore dX12_readTurner_157 (by decide) (by decide) ?_
  refine tr_iload dX12_readTurner_159 rfl ?_
  refine q_if_eq 227 dX12_readTurner_161 (by decide) (fun h119 => ?_) (fun h119 => ?_)
  · skip
    exfalso; omega
  · skip
    refine tr_aload_n dX12_readTurner_164 hl0 ?_
    refine q_getI dX12_readTurner_165 fl12_99 (kR15 hS106.1 ta0) c109 ?_
    refine q_iconst dX12_readTurner_168 (by decide) ?_
    intro v120 h121
    refine q_icmp_eq 227 dX12_readTurner_169 (by decide) (fun h122 => ?_) (fun h122 => ?_)
    · skip
      refine tr_aload_n dX12_readTurner_227 hl0 ?_
      refine q_getI dX12_readTurner_228 fl12_99 (kR15 hS106.1 ta0) c109 ?_
      refine q_iconst dX12_readTurner_231 (by decide) ?_
      intro v123 h124
      refine q_icmp_ne 236 dX12_readTurner_232 (by decide) (fun h125 => ?_) (fun h125 => ?_)
      · skip
        exfalso; omega
      · skip
        exact tr_vret hZ dX12_readTurner_235 rfl (by decide) (by decide) (hq _ _ _ ⟨hS106, (by (try rw [c109]); first | done | with_reducible assumption | omega), (by (try rw [c112]); (try rw [c8]); first | done | with_reducible assumption | omega), (by (try rw [c114]); (try rw [c10]); first | done | with_reducible assumption | omega), trivial⟩)
    · skip
      exfalso; omega
def wif_tuL : List Nat := [900, 903, 968, 969, 970, 971, 972, 973, 974, 4095, 4159, 4223, 4287, 4351, 4415, 4799, 4863]
def wrf_tuL : List Nat := []
def wlf_tuL : List Nat := [975, 4735]
set_option maxHeartbeats 4000000 in
theorem sf_tuL {X : cz_X} (hE : cz_env X) {T : Nat → Nat} {cn : Nat} {K N : Nat → Nat} {I0 : cz_I} {R0 : cz_R} {L0 : cz_L} {Q : cz_Q} (hZ : cz_Z X mX12_readTurner Q) (hW0 : Wf T cn K N I0 R0 0) (gB : cz_B) (gs : Int) (gQ : Nat → Int) {a0 : Nat} (ta0 : T a0 = 15) {y1 : Int64} {x2 : Int32} (hx2 : 0 ≤ x2.toInt ∧ x2.toInt ≤ 3) (hT : ∀ t, R0 a0 5 = some t → Tx I0 t gB) (hN : ∀ b, R0 a0 4 = some b → NmM I0 R0 L0 b gQ) (pre0 : (I0 a0 9).toInt = (tkM gB (tkN gB (tkN gB (tkN gB gs))))) (pre1 : (I0 a0 9).toInt ≤ 4) (pre2 : (I0 a0 10).toInt = (tkS gB (tkN gB (tkN gB (tkN gB gs))))) (pre3 : (I0 a0 11).toInt = (tkG gB (tkN gB (tkN gB (tkN gB gs))))) (pre4 : (AtW ((tkK gB (tkN gB (tkN gB (tkN gB gs))))) ((L0 a0 15).toInt) ((tkW gB (tkN gB (tkN gB (tkN gB gs))))))) (pre5 : (AtV ((tkK gB (tkN gB (tkN gB (tkN gB gs))))) ((I0 a0 12).toInt) ((tkV gB (tkN gB (tkN gB (tkN gB gs))))))) (pre6 : (AtN ((tkK gB (tkN gB (tkN gB (tkN gB gs))))) ((I0 a0 8).toInt) ((tkN gB (tkN gB (tkN gB (tkN gB gs))))))) (pre7 : (I0 a0 7).toInt = (gB.2)) (pre8 : ∀ b1, R0 a0 4 = some b1 → (I0 b1 0).toInt = (gQ 0)) (pre9 : ∀ b1, R0 a0 4 = some b1 → (I0 b1 1).toInt = (gQ 1)) (pre10 : ∀ b1, R0 a0 4 = some b1 → (I0 b1 2).toInt = (gQ 2)) (pre11 : ∀ b1, R0 a0 4 = some b1 → (I0 b1 3).toInt = (gQ 3)) (pre12 : ∀ b1, R0 a0 4 = some b1 → (I0 b1 4).toInt = (gQ 4)) (pre13 : ∀ b1, R0 a0 4 = some b1 → (I0 b1 5).toInt = (gQ 5)) (pre14 : ∀ b1, R0 a0 4 = some b1 → (I0 b1 6).toInt = (gQ 6)) (pre15 : ∀ b1, R0 a0 4 = some b1 → (I0 b1 9).toInt = (gQ 8)) (pre16 : (Q7M ((gQ 0)) ((gQ 7)))) (pre17 : (tkK gB gs) = 1) (pre18 : (srt gB gs) = 7) (pre19 : (gQ 4) ≤ 4) (pre20 : (gQ 0) ≠ 0) (pre21 : (isN gB (tkN gB gs)) = 1) (pre22 : (nmI gQ 100 (gQ 3) (tkW gB (tkN gB gs))) = -1) (pre23 : (nmI gQ 200 (gQ 4) (tkW gB (tkN gB gs))) = -1) (pre24 : y1.toInt = (tkW gB (tkN gB gs))) (pre25 : (tkd gB (tkN gB (tkN gB gs))) = x2.toInt) (nn4 : ∃ b, R0 a0 4 = some b) {ls : Nat → Option Value} (hl0 : ls 0 = some (.ref a0)) (hl1 : ls 1 = some (.long y1)) (hl3 : ls 3 = some (.int x2)) (hq : ∀ (I' : cz_I) (R' : cz_R) (L' : cz_L), St T cn K N 0 wif_tuL wrf_tuL I0 R0 I' R' ∧ (∀ dr, R0 a0 4 = some dr → FrO 14 dr T I0 I') ∧ ((((lnF gB gQ gs) = 0) ∧ (∀ b1, R' a0 4 = some b1 → (I' b1 0).toInt = (lnQ gB gQ gs 0)) ∧ (∀ b1, R' a0 4 = some b1 → (I' b1 1).toInt = (lnQ gB gQ gs 1)) ∧ (∀ b1, R' a0 4 = some b1 → (I' b1 2).toInt = (lnQ gB gQ gs 2)) ∧ (∀ b1, R' a0 4 = some b1 → (I' b1 3).toInt = (lnQ gB gQ gs 3)) ∧ (∀ b1, R' a0 4 = some b1 → (I' b1 4).toInt = (lnQ gB gQ gs 4)) ∧ (∀ b1, R' a0 4 = some b1 → (I' b1 5).toInt = (lnQ gB gQ gs 5)) ∧ (∀ b1, R' a0 4 = some b1 → (I' b1 6).toInt = (lnQ gB gQ gs 6)) ∧ (∀ b1, R' a0 4 = some b1 → (I' b1 9).toInt = (lnQ gB gQ gs 8)) ∧ ((I' a0 13).toInt = (I0 a0 13).toInt) ∧ ((I' a0 9).toInt = (tkM gB (lnS gB gQ gs))) ∧ ((I' a0 9).toInt ≤ 4) ∧ ((I' a0 10).toInt = (tkS gB (lnS gB gQ gs))) ∧ ((I' a0 11).toInt = (tkG gB (lnS gB gQ gs))) ∧ ((AtW ((tkK gB (lnS gB gQ gs))) ((L' a0 15).toInt) ((tkW gB (lnS gB gQ gs))))) ∧ ((AtV ((tkK gB (lnS gB gQ gs))) ((I' a0 12).toInt) ((tkV gB (lnS gB gQ gs))))) ∧ ((AtN ((tkK gB (lnS gB gQ gs))) ((I' a0 8).toInt) ((tkN gB (lnS gB gQ gs))))) ∧ LgS T wlf_tuL L0 L' ∧ (∀ b, R0 a0 4 = some b → NmM I' R' L' b (lnQ gB gQ gs)) ∧ True) ∨ (((lnF gB gQ gs) ≠ 0) ∧ ((I' a0 9).toInt = 5) ∧ ((I' a0 13).toInt = (lnF gB gQ gs)) ∧ ((I' a0 14).toInt = (lnP gB gQ gs)) ∧ True)) ∧ True → Q none cn K N I' R' L') : Tr X mX12_readTurner 84 ls [] cn K N I0 R0 L0 0 0 := by
  have hS0 : St T cn K N 0 wif_tuL wrf_tuL I0 R0 I0 R0 := St.rf0 hW0
  have hL0 : LgS T wlf_tuL L0 L0 := LgS.rf0
  obtain ⟨a1, d2⟩ := nn4
  have ta1 : T a1 = 14 := hW0.rsN ta0 rfl d2
  obtain ⟨v3, c4⟩ : ∃ v, I0 a0 9 = v := ⟨_, rfl⟩
  have b5 := iv15_9 hS0.1 ta0 c4
  have p6 := pre0
  rw [c4] at p6
  have p7 := pre1
  rw [c4] at p7
  obtain ⟨v8, c9⟩ : ∃ v, I0 a0 10 = v := ⟨_, rfl⟩
  have b10 := iv15_10 hS0.1 ta0 c9
  have p11 := pre2
  rw [c9] at p11
  obtain ⟨v12, c13⟩ : ∃ v, I0 a0 11 = v := ⟨_, rfl⟩
  have p14 := pre3
  rw [c13] at p14
  obtain ⟨y15, c16⟩ : ∃ v, L0 a0 15 = v := ⟨_, rfl⟩
  have p17 := pre4
  rw [c16] at p17
  obtain ⟨v18, c19⟩ : ∃ v, I0 a0 12 = v := ⟨_, rfl⟩
  have p20 := pre5
  rw [c19] at p20
  obtain ⟨v21, c22⟩ : ∃ v, I0 a0 8 = v := ⟨_, rfl⟩
  have b23 := iv15_8 hS0.1 ta0 c22
  have p24 := pre6
  rw [c22] at p24
  obtain ⟨v25, c26⟩ : ∃ v, I0 a0 7 = v := ⟨_, rfl⟩
  have b27 := iv15_7 hW0 ta0 c26
  have p28 := pre7
  rw [c26] at p28
  obtain ⟨v29, c30⟩ : ∃ v, I0 a1 0 = v := ⟨_, rfl⟩
  have b31 := iv14_0 hW0 ta1 c30
  have p32 := pre8 _ d2
  rw [c30] at p32
  obtain ⟨v33, c34⟩ : ∃ v, I0 a1 1 = v := ⟨_, rfl⟩
  have b35 := iv14_1 hW0 ta1 c34
  have p36 := pre9 _ d2
  rw [c34] at p36
  obtain ⟨v37, c38⟩ : ∃ v, I0 a1 2 = v := ⟨_, rfl⟩
  have b39 := iv14_2 hW0 ta1 c38
  have p40 := pre10 _ d2
  rw [c38] at p40
  obtain ⟨v41, c42⟩ : ∃ v, I0 a1 3 = v := ⟨_, rfl⟩
  have b43 := iv14_3 hW0 ta1 c42
  have p44 := pre11 _ d2
  rw [c42] at p44
  obtain ⟨v45, c46⟩ : ∃ v, I0 a1 4 = v := ⟨_, rfl⟩
  have b47 := iv14_4 hS0.1 ta1 c46
  have p48 := pre12 _ d2
  rw [c46] at p48
  obtain ⟨v49, c50⟩ : ∃ v, I0 a1 5 = v := ⟨_, rfl⟩
  have b51 := iv14_5 hW0 ta1 c50
  have p52 := pre13 _ d2
  rw [c50] at p52
  obtain ⟨v53, c54⟩ : ∃ v, I0 a1 6 = v := ⟨_, rfl⟩
  have b55 := iv14_6 hW0 ta1 c54
  have p56 := pre14 _ d2
  rw [c54] at p56
  obtain ⟨v57, c58⟩ : ∃ v, I0 a1 9 = v := ⟨_, rfl⟩
  have b59 := iv14_9 hW0 ta1 c58
  have p60 := pre15 _ d2
  rw [c58] at p60
  have p61 := pre16
  have p62 := pre17
  have p63 := pre18
  have p64 := pre19
  have p65 := pre20
  have p66 := pre21
  have p67 := pre22
  have p68 := pre23
  have p69 := pre24
  have p70 := pre25
  obtain ⟨v71, c72⟩ : ∃ v, I0 a0 13 = v := ⟨_, rfl⟩
  have hM0 := hN _ d2
  have hO0 : FrO 14 a1 T I0 I0 := FrO.rf
  have hF := lnF_ch gB gQ gs
  have hP := lnP_ch gB gQ gs
  have p73 := p61
  unfold Q7M at p73
  replace hF := hF.neg (by omega)
  replace hP := hP.neg (by omega)
  replace hF := hF.neg (by omega)
  replace hP := hP.neg (by omega)
  replace hF := hF.neg (by omega)
  replace hP := hP.neg (by omega)
  replace hF := hF.neg (by omega)
  replace hP := hP.neg (by omega)
  clear p73
  obtain ⟨w74, w75, w76, w77, w78, w79, w80, w81, w82, w83, w84, w85⟩ := lnl_7 (B := gB) (Q := gQ) (s := gs) (by omega)
  replace hF := hF.to w74 (tuF_cx gB gQ (tkN gB gs))
  replace hP := hP.to w75 (tuP_cx gB gQ (tkN gB gs))
  have kdx : tkd gB (tkN gB (tkN gB gs)) = x2.toInt := by omega
  replace hF := hF.neg (by omega)
  replace hP := hP.neg (by omega)
  replace hF := hF.neg (by omega)
  replace hP := hP.neg (by omega)
  replace hF := hF.neg (by omega)
  replace hP := hP.neg (by omega)
  refine tr_aload_n dX12_readTurner_84 hl0 ?_
  refine tr_ldcwS dX12_readTurner_85 ld12_324 ?_
  refine q_iconst dX12_readTurner_88 (by decide) ?_
  intro v86 h87
  refine tr_aload_n dX12_readTurner_89 hl0 ?_
  refine tr_getR dX12_readTurner_90 fl12_188 (kR15 hS0.1 ta0) d2 ?_
  refine q_getI dX12_readTurner_93 fl12_192 (kR14 hS0.1 ta1) c30 ?_
  refine q_iconst dX12_readTurner_96 (by decide) ?_
  intro v88 h89
  refine q_isubE dX12_readTurner_97 (by intros; omega) ?_
  intro v90 h91
  refine q_callVi hE (M' := mX12_readPart) (as := [_, _, _]) dX12_readTurner_98 lk12_249 inX12_readPart seX12_readPart myX12_readPart (by decide) ⟨by decide, by decide⟩ rfl (kR15 hS0.1 ta0) (Nat.le_of_ble_eq_true rfl) rfl rfl (by decide) (by decide) (fk_X12_readPart hS0.1 (gB) ((tkN gB (tkN gB (tkN gB gs)))) ta0 (by decide) (TxA.kp hT hS0 ta0 rfl rfl rfl (by decide +kernel) (by decide +kernel)) (by (try rw [c4]); first | done | with_reducible assumption | omega) (by (try rw [c4]); first | done | with_reducible assumption | omega) (by (try rw [c9]); first | done | with_reducible assumption | omega) (by (try rw [c13]); first | done | with_reducible assumption | omega) (by (try rw [c16]); first | done | assumption) (by (try rw [c19]); first | done | assumption) (by (try rw [c22]); first | done | assumption) (by (try rw [c26]); first | done | with_reducible assumption | omega)) ?_
  rintro v97 cn' K' N' I92 R93 L94 ⟨rfl, rfl, rfl, rfl, g95, dj98, -⟩
  (try rw [pk_13] at dj98)
  have hM99 : NmM I92 R0 L0 a1 gQ := NmM.kpS hM0 g95 hS0.1 ta1 (by decide +kernel) (by decide +kernel)
  have hS100 := hS0.tr g95 (by decide +kernel) (by decide +kernel)
  have c101 : I92 a1 4 = v45 := (g95.cell ta1 (by decide +kernel)).trans c46
  have hO102 : FrO 14 a1 T I0 I92 := hO0.st g95 (by decide +kernel)
  rcases dj98 with ⟨p103, p104, p105, p106, p107, p108, p109, p110, p111, p112, p113, p114, p115, p116, gl117, -⟩ | ⟨p118, p119, p120, p121, p122, -⟩ | ⟨p123, p124, p125, p126, p127, p128, p129, -⟩ | ⟨p130, p131, p132, p133, p134, p135, p136, p137, -⟩
  · skip
    have hL138 := hL0.tr gl117 (by decide +kernel)
    have hM139 : NmM I92 R0 L94 a1 gQ := NmM.kpL hM99 gl117 hS100.1 ta1 (by decide +kernel)
    obtain ⟨v140, c141⟩ : ∃ v, I92 a0 13 = v := ⟨_, rfl⟩
    rw [c141] at p109
    rw [c72] at p109
    obtain ⟨v142, c143⟩ : ∃ v, I92 a0 9 = v := ⟨_, rfl⟩
    have b144 := iv15_9 hS100.1 ta0 c143
    rw [c143] at p110
    rw [c143] at p111
    obtain ⟨v145, c146⟩ : ∃ v, I92 a0 10 = v := ⟨_, rfl⟩
    have b147 := iv15_10 hS100.1 ta0 c146
    rw [c146] at p112
    obtain ⟨v148, c149⟩ : ∃ v, I92 a0 11 = v := ⟨_, rfl⟩
    rw [c149] at p113
    obtain ⟨y150, c151⟩ : ∃ v, L94 a0 15 = v := ⟨_, rfl⟩
    rw [c151] at p114
    obtain ⟨v152, c153⟩ : ∃ v, I92 a0 12 = v := ⟨_, rfl⟩
    rw [c153] at p115
    obtain ⟨v154, c155⟩ : ∃ v, I92 a0 8 = v := ⟨_, rfl⟩
    have b156 := iv15_8 hS100.1 ta0 c155
    rw [c155] at p116
    replace hF := hF.neg (by omega)
    replace hP := hP.neg (by omega)
    replace hF := hF.neg (by omega)
    replace hP := hP.neg (by omega)
    replace hF := hF.neg (by omega)
    replace hP := hP.neg (by omega)
    refine tr_istore dX12_readTurner_101 (by decide) (by decide) ?_
    refine tr_aload_n dX12_readTurner_103 hl0 ?_
    refine tr_ldcwS dX12_readTurner_104 ld12_272 ?_
    refine tr_iload dX12_readTurner_107 rfl ?_
    refine q_iconst dX12_readTurner_109 (by decide) ?_
    intro v157 h158
    refine q_iaddE dX12_readTurner_110 (by intros; omega) ?_
    intro v159 h160
    refine tr_aload_n dX12_readTurner_111 hl0 ?_
    refine tr_getR dX12_readTurner_112 fl12_188 (kR15 hS100.1 ta0) d2 ?_
    refine q_getI dX12_readTurner_115 fl12_192 (kR14 hS100.1 ta1) ((hS100.cell ta1 (by decide +kernel)).trans c30) ?_
    refine q_callVi hE (M' := mX12_readPart) (as := [_, _, _]) dX12_readTurner_118 lk12_249 inX12_readPart seX12_readPart myX12_readPart (by decide) ⟨by decide, by decide⟩ rfl (kR15 hS100.1 ta0) (Nat.le_of_ble_eq_true rfl) rfl rfl (by decide) (by decide) (fk_X12_readPart hS100.1 (gB) ((tkN gB (tkN gB (tkN gB (tkN gB (tkN gB gs)))))) ta0 (by decide) (TxA.kp hT hS100 ta0 rfl rfl rfl (by decide +kernel) (by decide +kernel)) (by (try rw [c143]); first | done | with_reducible assumption | omega) (by (try rw [c143]); first | done | with_reducible assumption | omega) (by (try rw [c146]); first | done | with_reducible assumption | omega) (by (try rw [c149]); first | done | with_reducible assumption | omega) (by (try rw [c151]); first | done | assumption) (by (try rw [c153]); first | done | assumption) (by (try rw [c155]); first | done | assumption) (by (try rw [((hS100.cell ta0 (by decide +kernel)).trans c26)]); first | done | with_reducible assumption | omega)) ?_
    rintro v166 cn' K' N' I161 R162 L163 ⟨rfl, rfl, rfl, rfl, g164, dj167, -⟩
    (try rw [pk_25] at dj167)
    have hM168 : NmM I161 R0 L94 a1 gQ := NmM.kpS hM139 g164 hS100.1 ta1 (by decide +kernel) (by decide +kernel)
    have hS169 := hS100.tr g164 (by decide +kernel) (by decide +kernel)
    have c170 : I161 a1 4 = v45 := (g164.cell ta1 (by decide +kernel)).trans c101
    have hO171 : FrO 14 a1 T I0 I161 := hO102.st g164 (by decide +kernel)
    rcases dj167 with ⟨p172, p173, p174, p175, p176, p177, p178, p179, p180, p181, p182, p183, p184, p185, gl186, -⟩ | ⟨p187, p188, p189, p190, p191, -⟩ | ⟨p192, p193, p194, p195, p196, p197, p198, -⟩ | ⟨p199, p200, p201, p202, p203, p204, p205, p206, -⟩
    · skip
      have hL207 := hL138.tr gl186 (by decide +kernel)
      have hM208 : NmM I161 R0 L163 a1 gQ := NmM.kpL hM168 gl186 hS169.1 ta1 (by decide +kernel)
      obtain ⟨v209, c210⟩ : ∃ v, I161 a0 13 = v := ⟨_, rfl⟩
      rw [c210] at p178
      rw [c141] at p178
      obtain ⟨v211, c212⟩ : ∃ v, I161 a0 9 = v := ⟨_, rfl⟩
      have b213 := iv15_9 hS169.1 ta0 c212
      rw [c212] at p179
      rw [c212] at p180
      obtain ⟨v214, c215⟩ : ∃ v, I161 a0 10 = v := ⟨_, rfl⟩
      have b216 := iv15_10 hS169.1 ta0 c215
      rw [c215] at p181
      obtain ⟨v217, c218⟩ : ∃ v, I161 a0 11 = v := ⟨_, rfl⟩
      rw [c218] at p182
      obtain ⟨y219, c220⟩ : ∃ v, L163 a0 15 = v := ⟨_, rfl⟩
      rw [c220] at p183
      obtain ⟨v221, c222⟩ : ∃ v, I161 a0 12 = v := ⟨_, rfl⟩
      rw [c222] at p184
      obtain ⟨v223, c224⟩ : ∃ v, I161 a0 8 = v := ⟨_, rfl⟩
      have b225 := iv15_8 hS169.1 ta0 c224
      rw [c224] at p185
      replace hF := hF.neg (by omega)
      replace hP := hP.neg (by omega)
      replace hF := hF.neg (by omega)
      replace hP := hP.neg (by omega)
      replace hF := hF.neg (by omega)
      replace hP := hP.neg (by omega)
      refine tr_istore dX12_readTurner_121 (by decide) (by decide) ?_
      refine tr_aload_n dX12_readTurner_123 hl0 ?_
      refine tr_ldcwS dX12_readTurner_124 ld12_325 ?_
      refine q_iconst dX12_readTurner_127 (by decide) ?_
      intro v226 h227
      refine q_bipush dX12_readTurner_128 (by decide +kernel) ?_
      intro v228 h229
      refine q_callVi hE (M' := mX12_readPart) (as := [_, _, _]) dX12_readTurner_130 lk12_249 inX12_readPart seX12_readPart myX12_readPart (by decide) ⟨by decide, by decide⟩ rfl (kR15 hS169.1 ta0) (Nat.le_of_ble_eq_true rfl) rfl rfl (by decide) (by decide) (fk_X12_readPart hS169.1 (gB) ((tkN gB (tkN gB (tkN gB (tkN gB (tkN gB (tkN gB (tkN gB gs)))))))) ta0 (by decide) (TxA.kp hT hS169 ta0 rfl rfl rfl (by decide +kernel) (by decide +kernel)) (by (try rw [c212]); first | done | with_reducible assumption | omega) (by (try rw [c212]); first | done | with_reducible assumption | omega) (by (try rw [c215]); first | done | with_reducible assumption | omega) (by (try rw [c218]); first | done | with_reducible assumption | omega) (by (try rw [c220]); first | done | assumption) (by (try rw [c222]); first | done | assumption) (by (try rw [c224]); first | done | assumption) (by (try rw [((hS169.cell ta0 (by decide +kernel)).trans c26)]); first | done | with_reducible assumption | omega)) ?_
      rintro v235 cn' K' N' I230 R231 L232 ⟨rfl, rfl, rfl, rfl, g233, dj236, -⟩
      (try rw [pk_14] at dj236)
      have hM237 : NmM I230 R0 L163 a1 gQ := NmM.kpS hM208 g233 hS169.1 ta1 (by decide +kernel) (by decide +kernel)
      have hS238 := hS169.tr g233 (by decide +kernel) (by decide +kernel)
      have c239 : I230 a1 4 = v45 := (g233.cell ta1 (by decide +kernel)).trans c170
      have hO240 : FrO 14 a1 T I0 I230 := hO171.st g233 (by decide +kernel)
      rcases dj236 with ⟨p241, p242, p243, p244, p245, p246, p247, p248, p249, p250, p251, p252, p253, p254, gl255, -⟩ | ⟨p256, p257, p258, p259, p260, -⟩ | ⟨p261, p262, p263, p264, p265, p266, p267, -⟩ | ⟨p268, p269, p270, p271, p272, p273, p274, p275, -⟩
      · skip
        have hL276 := hL207.tr gl255 (by decide +kernel)
        have hM277 : NmM I230 R0 L232 a1 gQ := NmM.kpL hM237 gl255 hS238.1 ta1 (by decide +kernel)
        obtain ⟨v278, c279⟩ : ∃ v, I230 a0 13 = v := ⟨_, rfl⟩
        rw [c279] at p247
        rw [c210] at p247
        obtain ⟨v280, c281⟩ : ∃ v, I230 a0 9 = v := ⟨_, rfl⟩
        have b282 := iv15_9 hS238.1 ta0 c281
        rw [c281] at p248
        rw [c281] at p249
        obtain ⟨v283, c284⟩ : ∃ v, I230 a0 10 = v := ⟨_, rfl⟩
        have b285 := iv15_10 hS238.1 ta0 c284
        rw [c284] at p250
        obtain ⟨v286, c287⟩ : ∃ v, I230 a0 11 = v := ⟨_, rfl⟩
        rw [c287] at p251
        obtain ⟨y288, c289⟩ : ∃ v, L232 a0 15 = v := ⟨_, rfl⟩
        rw [c289] at p252
        obtain ⟨v290, c291⟩ : ∃ v, I230 a0 12 = v := ⟨_, rfl⟩
        rw [c291] at p253
        obtain ⟨v292, c293⟩ : ∃ v, I230 a0 8 = v := ⟨_, rfl⟩
        have b294 := iv15_8 hS238.1 ta0 c293
        rw [c293] at p254
        replace hF := hF.neg (by omega)
        replace hP := hP.neg (by omega)
        replace hF := hF.neg (by omega)
        replace hP := hP.neg (by omega)
        replace hF := hF.neg (by omega)
        replace hP := hP.neg (by omega)
        refine tr_istore dX12_readTurner_133 (by decide) (by decide) ?_
        refine tr_aload_n dX12_readTurner_135 hl0 ?_
        refine tr_ldcwS dX12_readTurner_136 ld12_327 ?_
        refine q_iconst dX12_readTurner_139 (by decide) ?_
        intro v295 h296
        refine q_bipush dX12_readTurner_140 (by decide +kernel) ?_
        intro v297 h298
        refine q_callVi hE (M' := mX12_readPart) (as := [_, _, _]) dX12_readTurner_142 lk12_249 inX12_readPart seX12_readPart myX12_readPart (by decide) ⟨by decide, by decide⟩ rfl (kR15 hS238.1 ta0) (Nat.le_of_ble_eq_true rfl) rfl rfl (by decide) (by decide) (fk_X12_readPart hS238.1 (gB) ((tkN gB (tkN gB (tkN gB (tkN gB (tkN gB (tkN gB (tkN gB (tkN gB (tkN gB gs)))))))))) ta0 (by decide) (TxA.kp hT hS238 ta0 rfl rfl rfl (by decide +kernel) (by decide +kernel)) (by (try rw [c281]); first | done | with_reducible assumption | omega) (by (try rw [c281]); first | done | with_reducible assumption | omega) (by (try rw [c284]); first | done | with_reducible assumption | omega) (by (try rw [c287]); first | done | with_reducible assumption | omega) (by (try rw [c289]); first | done | assumption) (by (try rw [c291]); first | done | assumption) (by (try rw [c293]); first | done | assumption) (by (try rw [((hS238.cell ta0 (by decide +kernel)).trans c26)]); first | done | with_reducible assumption | omega)) ?_
        rintro v304 cn' K' N' I299 R300 L301 ⟨rfl, rfl, rfl, rfl, g302, dj305, -⟩
        (try rw [pk_24] at dj305)
        have hM306 : NmM I299 R0 L232 a1 gQ := NmM.kpS hM277 g302 hS238.1 ta1 (by decide +kernel) (by decide +kernel)
        have hS307 := hS238.tr g302 (by decide +kernel) (by decide +kernel)
        have c308 : I299 a1 4 = v45 := (g302.cell ta1 (by decide +kernel)).trans c239
        have hO309 : FrO 14 a1 T I0 I299 := hO240.st g302 (by decide +kernel)
        rcases dj305 with ⟨p310, p311, p312, p313, p314, p315, p316, p317, p318, p319, p320, p321, p322, p323, gl324, -⟩ | ⟨p325, p326, p327, p328, p329, -⟩ | ⟨p330, p331, p332, p333, p334, p335, p336, -⟩ | ⟨p337, p338, p339, p340, p341, p342, p343, p344, -⟩
        · skip
          have hL345 := hL276.tr gl324 (by decide +kernel)
          have hM346 : NmM I299 R0 L301 a1 gQ := NmM.kpL hM306 gl324 hS307.1 ta1 (by decide +kernel)
          obtain ⟨v347, c348⟩ : ∃ v, I299 a0 13 = v := ⟨_, rfl⟩
          rw [c348] at p316
          rw [c279] at p316
          obtain ⟨v349, c350⟩ : ∃ v, I299 a0 9 = v := ⟨_, rfl⟩
          have b351 := iv15_9 hS307.1 ta0 c350
          rw [c350] at p317
          rw [c350] at p318
          obtain ⟨v352, c353⟩ : ∃ v, I299 a0 10 = v := ⟨_, rfl⟩
          have b354 := iv15_10 hS307.1 ta0 c353
          rw [c353] at p319
          obtain ⟨v355, c356⟩ : ∃ v, I299 a0 11 = v := ⟨_, rfl⟩
          rw [c356] at p320
          obtain ⟨y357, c358⟩ : ∃ v, L301 a0 15 = v := ⟨_, rfl⟩
          rw [c358] at p321
          obtain ⟨v359, c360⟩ : ∃ v, I299 a0 12 = v := ⟨_, rfl⟩
          rw [c360] at p322
          obtain ⟨v361, c362⟩ : ∃ v, I299 a0 8 = v := ⟨_, rfl⟩
          have b363 := iv15_8 hS307.1 ta0 c362
          rw [c362] at p323
          replace hF := hF.neg (by omega)
          replace hP := hP.neg (by omega)
          replace hF := hF.neg (by omega)
          replace hP := hP.neg (by omega)
          replace hF := hF.neg (by omega)
          replace hP := hP.neg (by omega)
          refine tr_istore dX12_readTurner_145 (by decide) (by decide) ?_
          refine tr_aload_n dX12_readTurner_147 hl0 ?_
          refine tr_ldcS dX12_readTurner_148 ld12_253 ?_
          refine q_callVv hE (M' := mX12_needs) (as := [_]) dX12_readTurner_150 lk12_157 inX12_needs seX12_needs myX12_needs (by decide) ⟨by decide, by decide⟩ rfl (kR15 hS307.1 ta0) (Nat.le_of_ble_eq_true rfl) rfl rfl (by decide) (by decide) (fk_X12_needs hS307.1 (gB) ((tkN gB (tkN gB (tkN gB (tkN gB (tkN gB (tkN gB (tkN gB (tkN gB (tkN gB (tkN gB (tkN gB gs)))))))))))) ta0 (by decide) (TxA.kp hT hS307 ta0 rfl rfl rfl (by decide +kernel) (by decide +kernel)) (by (try rw [c350]); first | done | with_reducible assumption | omega) (by (try rw [c350]); first | done | with_reducible assumption | omega) (by (try rw [c353]); first | done | with_reducible assumption | omega) (by (try rw [c356]); first | done | with_reducible assumption | omega) (by (try rw [c358]); first | done | assumption) (by (try rw [c360]); first | done | assumption) (by (try rw [c362]); first | done | assumption) (by (try rw [((hS307.cell ta0 (by decide +kernel)).trans c26)]); first | done | with_reducible assumption | omega)) ?_
          rintro cn' K' N' I364 R365 L366 ⟨rfl, rfl, rfl, rfl, g367, dj370, -⟩
          (try rw [pk_16] at dj370)
          have hM371 : NmM I364 R0 L301 a1 gQ := NmM.kpS hM346 g367 hS307.1 ta1 (by decide +kernel) (by decide +kernel)
          have hS372 := hS307.tr g367 (by decide +kernel) (by decide +kernel)
          have c373 : I364 a1 4 = v45 := (g367.cell ta1 (by decide +kernel)).trans c308
          have hO374 : FrO 14 a1 T I0 I364 := hO309.st g367 (by decide +kernel)
          rcases dj370 with ⟨p375, p376, p377, p378, p379, p380, p381, p382, p383, p384, gl385, -⟩ | ⟨p386, p387, p388, p389, -⟩
          · skip
            have hL390 := hL345.tr gl385 (by decide +kernel)
            have hM391 : NmM I364 R0 L366 a1 gQ := NmM.kpL hM371 gl385 hS372.1 ta1 (by decide +kernel)
            obtain ⟨v392, c393⟩ : ∃ v, I364 a0 13 = v := ⟨_, rfl⟩
            rw [c393] at p377
            rw [c348] at p377
            obtain ⟨v394, c395⟩ : ∃ v, I364 a0 9 = v := ⟨_, rfl⟩
            have b396 := iv15_9 hS372.1 ta0 c395
            rw [c395] at p378
            rw [c395] at p379
            obtain ⟨v397, c398⟩ : ∃ v, I364 a0 10 = v := ⟨_, rfl⟩
            have b399 := iv15_10 hS372.1 ta0 c398
            rw [c398] at p380
            obtain ⟨v400, c401⟩ : ∃ v, I364 a0 11 = v := ⟨_, rfl⟩
            rw [c401] at p381
            obtain ⟨y402, c403⟩ : ∃ v, L366 a0 15 = v := ⟨_, rfl⟩
            rw [c403] at p382
            obtain ⟨v404, c405⟩ : ∃ v, I364 a0 12 = v := ⟨_, rfl⟩
            rw [c405] at p383
            obtain ⟨v406, c407⟩ : ∃ v, I364 a0 8 = v := ⟨_, rfl⟩
            have b408 := iv15_8 hS372.1 ta0 c407
            rw [c407] at p384
            replace hF := hF.neg (by omega)
            replace hP := hP.neg (by omega)
            refine q_iconst dX12_readTurner_153 (by decide) ?_
            intro v409 h410
            refine tr_istore dX12_readTurner_154 (by decide) (by decide) ?_
            refine q_iconst dX12_readTurner_156 (by decide) ?_
            intro v411 h412
            refine tr_istore dX12_readTurner_157 (by decide) (by decide) ?_
            have lp466 : ∀ (fu : Nat) (ls : Nat → Option Value) (v413 : Int32) (v414 : Int32) (I424 : cz_I) (L425 : cz_L) (gs426 : Int) (gr427 : Nat) (gh428 : Int) (v433 : Int32) (v435 : Int32) (v437 : Int32) (v439 : Int32) (v441 : Int32) (y443 : Int64) (v445 : Int32) (v447 : Int32), ls 0 = some (.ref a0) → ls 1 = some (.long y1) → ls 3 = some (.int x2) → ls 4 = some (.int v97) → ls 5 = some (.int v166) → ls 6 = some (.int v235) → ls 7 = some (.int v304) → ls 8 = some (.int v413) → ls 9 = some (.int v414) → St T cn K N 0 wif_tuL wrf_tuL I0 R0 I424 R0 → LgS T wlf_tuL L0 L425 → NmM I424 R0 L425 a1 gQ → FrO 14 a1 T I0 I424 → I424 a0 13 = v433 → I424 a1 4 = v435 → I424 a0 9 = v437 → I424 a0 10 = v439 → I424 a0 11 = v441 → L425 a0 15 = y443 → I424 a0 12 = v445 → I424 a0 8 = v447 → (huF gB gQ gr427 gh428 gs426) = (huF gB gQ 901 0 (tkN gB (tkN gB (tkN gB (tkN gB (tkN gB (tkN gB (tkN gB (tkN gB (tkN gB (tkN gB (tkN gB (tkN gB gs))))))))))))) → (huP gB gQ gr427 gh428 gs426) = (huP gB gQ 901 0 (tkN gB (tkN gB (tkN gB (tkN gB (tkN gB (tkN gB (tkN gB (tkN gB (tkN gB (tkN gB (tkN gB (tkN gB gs))))))))))))) → (huS gB gQ gr427 gh428 gs426) = (huS gB gQ 901 0 (tkN gB (tkN gB (tkN gB (tkN gB (tkN gB (tkN gB (tkN gB (tkN gB (tkN gB (tkN gB (tkN gB (tkN gB gs))))))))))))) → v435.toInt = (gQ 4) → v414.toInt = 1 → v413.toInt = (gh428) → (gh428) ≥ 0 → (gh428) ≤ 15 → ((gr427 : Int)) + v439.toInt ≥ 901 → v433.toInt = v71.toInt → v437.toInt = (tkM gB gs426) → v437.toInt ≤ 4 → v439.toInt = (tkS gB gs426) → v441.toInt = (tkG gB gs426) → (AtW ((tkK gB gs426)) (y443.toInt) ((tkW gB gs426))) → (AtV ((tkK gB gs426)) (v445.toInt) ((tkV gB gs426))) → (AtN ((tkK gB gs426)) (v447.toInt) ((tkN gB gs426))) → (-v439.toInt + 900).toNat < fu → Tr X mX12_readTurner 159 ls [] cn K N I424 R0 L425 0 0 := by
              intro fu
              induction fu with
              | zero => intros; rename_i hz; exact absurd hz (Nat.not_lt_zero _)
              | succ fu ih466 =>
                intro ls v413 v414 I424 L425 gs426 gr427 gh428 v433 v435 v437 v439 v441 y443 v445 v447 hl415 hl416 hl417 hl418 hl419 hl420 hl421 hl422 hl423 hS429 hL430 hM431 hO432 c434 c436 c438 c440 c442 c444 c446 c448 g449 g450 g451 g452 g453 g454 g455 g456 g457 g458 g459 g460 g461 g462 g463 g464 g465 hm466
                have b468 := iv14_4 hS429.1 ta1 c436
                have b469 := iv15_9 hS429.1 ta0 c438
                have b470 := iv15_10 hS429.1 ta0 c440
                have b471 := iv15_8 hS429.1 ta0 c448
                rcases Nat.eq_zero_or_pos gr427 with hz472 | hz472
                · skip
                  subst hz472
                  exfalso; omega
                · skip
                  obtain ⟨gk473, rfl⟩ : ∃ k, gr427 = k + 1 := ⟨gr427 - 1, by omega⟩
                  refine tr_iload dX12_readTurner_159 hl423 ?_
                  refine q_if_eq 227 dX12_readTurner_161 (by decide) (fun h474 => ?_) (fun h474 => ?_)
                  · skip
                    exfalso; omega
                  · skip
                    refine tr_aload_n dX12_readTurner_164 hl415 ?_
                    refine q_getI dX12_readTurner_165 fl12_99 (kR15 hS429.1 ta0) c438 ?_
                    refine q_iconst dX12_readTurner_168 (by decide) ?_
                    intro v475 h476
                    refine q_icmp_eq 227 dX12_readTurner_169 (by decide) (fun h477 => ?_) (fun h477 => ?_)
                    · skip
                      exfalso; omega
                    · skip
                      refine tr_aload_n dX12_readTurner_172 hl415 ?_
                      refine q_iconst dX12_readTurner_173 (by decide) ?_
                      intro v478 h479
                      refine tr_aload_n dX12_readTurner_174 hl415 ?_
                      refine tr_getR dX12_readTurner_175 fl12_188 (kR15 hS429.1 ta0) d2 ?_
                      refine q_getI dX12_readTurner_178 fl12_263 (kR14 hS429.1 ta1) ((hS429.cell ta1 (by decide +kernel)).trans c34) ?_
                      refine q_iconst dX12_readTurner_181 (by decide) ?_
                      intro v480 h481
                      refine q_isubE dX12_readTurner_182 (by intros; omega) ?_
                      intro v482 h483
                      refine q_callVi hE (M' := mX12_bounded) (as := [_, _]) dX12_readTurner_183 lk12_153 inX12_bounded seX12_bounded myX12_bounded (by decide) ⟨by decide, by decide⟩ rfl (kR15 hS429.1 ta0) (Nat.le_of_ble_eq_true rfl) rfl rfl (by decide) (by decide) (fk_X12_bounded hS429.1 (gB) (gs426) ta0 (by (try rw [c438]); first | done | with_reducible assumption | omega) (by (try rw [c438]); first | done | with_reducible assumption | omega) (by (try rw [c440]); first | done | with_reducible assumption | omega) (by (try rw [c442]); first | done | with_reducible assumption | omega) (by (try rw [c444]); first | done | assumption) (by (try rw [c446]); first | done | assumption) (by (try rw [c448]); first | done | assumption)) ?_
                      rintro v489 cn' K' N' I484 R485 L486 ⟨rfl, rfl, rfl, rfl, rfl, g487, dj490, -⟩
                      have hM491 : NmM I484 R0 L425 a1 gQ := NmM.kpS hM431 g487 hS429.1 ta1 (by decide +kernel) (by decide +kernel)
                      have hS492 := hS429.tr g487 (by decide +kernel) (by decide +kernel)
                      have c493 : I484 a1 4 = v435 := (g487.cell ta1 (by decide +kernel)).trans c436
                      have c494 : I484 a0 10 = v439 := (g487.cell ta0 (by decide +kernel)).trans c440
                      have c495 : I484 a0 11 = v441 := (g487.cell ta0 (by decide +kernel)).trans c442
                      have c496 : I484 a0 12 = v445 := (g487.cell ta0 (by decide +kernel)).trans c446
                      have c497 : I484 a0 8 = v447 := (g487.cell ta0 (by decide +kernel)).trans c448
                      have hO498 : FrO 14 a1 T I0 I484 := hO432.st g487 (by decide +kernel)
                      rcases dj490 with ⟨p499, p500, p501, p502, p503, p504, p505, p506, p507, p508, p509, p510, -⟩ | ⟨p511, p512, p513, p514, p515, -⟩ | ⟨p516, p517, p518, p519, p520, p521, -⟩
                      · skip
                        obtain ⟨v522, c523⟩ : ∃ v, I484 a0 13 = v := ⟨_, rfl⟩
                        rw [c523] at p503
                        rw [c434] at p503
                        obtain ⟨v524, c525⟩ : ∃ v, I484 a0 9 = v := ⟨_, rfl⟩
                        have b526 := iv15_9 hS492.1 ta0 c525
                        rw [c525] at p504
                        rw [c525] at p505
                        rw [c494] at p506
                        rw [c495] at p507
                        rw [c444] at p508
                        rw [c496] at p509
                        rw [c497] at p510
                        refine tr_istore dX12_readTurner_186 (by decide) (by decide) ?_
                        refine tr_iload dX12_readTurner_188 hl422 ?_
                        refine tr_iload dX12_readTurner_190 rfl ?_
                        refine q_callSi hE (M' := mX12_has) (as := [_, _]) dX12_readTurner_192 lk12_329 inX12_has myX12_has ⟨by decide, by decide⟩ rfl (Nat.le_of_ble_eq_true rfl) rfl rfl (by decide) (by decide) (f_X12_has   (by omega) (by omega)) ?_
                        rintro v532 cn' K' N' I527 R528 L529 ⟨rfl, rfl, rfl, rfl, rfl, rfl, h533, p534, -⟩
                        rw [show v413.toInt = gh428 by omega, show v489.toInt = tkV gB gs426 by omega] at p534
                        refine q_if_eq 203 dX12_readTurner_195 (by decide) (fun h535 => ?_) (fun h535 => ?_)
                        · skip
                          refine tr_aload_n dX12_readTurner_203 hl415 ?_
                          have p536 := p510 (by omega)
                          refine q_callVv hE (M' := mX12_goesOn) (as := []) dX12_readTurner_204 lk12_142 inX12_goesOn seX12_goesOn myX12_goesOn (by decide) ⟨by decide, by decide⟩ rfl (kR15 hS492.1 ta0) (Nat.le_of_ble_eq_true rfl) rfl rfl (by decide) (by decide) (fk_X12_goesOn hS492.1 (gB) ((tkN gB gs426)) ta0 (TxA.kp hT hS492 ta0 rfl rfl rfl (by decide +kernel) (by decide +kernel)) (by (try rw [c497]); first | done | with_reducible assumption | omega) (by (try rw [((hS492.cell ta0 (by decide +kernel)).trans c26)]); first | done | with_reducible assumption | omega) (by (try rw [c525]); first | done | with_reducible assumption | omega)) ?_
                          rintro cn' K' N' I537 R538 L539 ⟨rfl, rfl, rfl, rfl, g540, gl541, p543, p544, p545, p546, p547, p548, p549, -⟩
                          have hM550 : NmM I537 R0 L425 a1 gQ := NmM.kpS hM491 g540 hS492.1 ta1 (by decide +kernel) (by decide +kernel)
                          have hS551 := hS492.tr g540 (by decide +kernel) (by decide +kernel)
                          have c552 : I537 a1 4 = v435 := (g540.cell ta1 (by decide +kernel)).trans c493
                          have c553 : I537 a0 13 = v522 := (g540.cell ta0 (by decide +kernel)).trans c523
                          have hO554 : FrO 14 a1 T I0 I537 := hO498.st g540 (by decide +kernel)
                          have hL555 := hL430.tr gl541 (by decide +kernel)
                          have hM556 : NmM I537 R0 L539 a1 gQ := NmM.kpL hM550 gl541 hS551.1 ta1 (by decide +kernel)
                          obtain ⟨v557, c558⟩ : ∃ v, I537 a0 9 = v := ⟨_, rfl⟩
                          have b559 := iv15_9 hS551.1 ta0 c558
                          rw [c558] at p543
                          rw [c558] at p544
                          obtain ⟨v560, c561⟩ : ∃ v, I537 a0 10 = v := ⟨_, rfl⟩
                          have b562 := iv15_10 hS551.1 ta0 c561
                          rw [c561] at p545
                          obtain ⟨v563, c564⟩ : ∃ v, I537 a0 11 = v := ⟨_, rfl⟩
                          rw [c564] at p546
                          obtain ⟨y565, c566⟩ : ∃ v, L539 a0 15 = v := ⟨_, rfl⟩
                          rw [c566] at p547
                          obtain ⟨v567, c568⟩ : ∃ v, I537 a0 12 = v := ⟨_, rfl⟩
                          rw [c568] at p548
                          obtain ⟨v569, c570⟩ : ∃ v, I537 a0 8 = v := ⟨_, rfl⟩
                          have b571 := iv15_8 hS551.1 ta0 c570
                          rw [c570] at p549
                          refine tr_iload dX12_readTurner_207 hl422 ?_
                          refine q_iconst dX12_readTurner_209 (by decide) ?_
                          intro v572 h573
                          refine tr_iload dX12_readTurner_210 rfl ?_
                          refine tr_ishl dX12_readTurner_212 ?_
                          refine tr_ior dX12_readTurner_213 ?_
                          obtain ⟨v574, lx575⟩ : ∃ z, z = v413 ||| (v572 <<< (v489 &&& 31)) := ⟨_, rfl⟩
                          rw [← lx575]
                          have p576 : v574.toInt = gh428 + pw (tkV gB gs426) ∧ gh428 + pw (tkV gB gs426) ≤ 15 := by rw [lx575, show gh428 = v413.toInt by omega, show tkV gB gs426 = v489.toInt by omega]; exact hut_or (by omega) (by omega) (by omega) (by rw [show v413.toInt = gh428 by omega, show v489.toInt = tkV gB gs426 by omega]; omega)
                          have p5760 := pw_pos (tkV gB gs426)
                          refine tr_istore dX12_readTurner_214 (by decide) (by decide) ?_
                          refine tr_aload_n dX12_readTurner_216 hl415 ?_
                          refine q_bipush dX12_readTurner_217 (by decide +kernel) ?_
                          intro v577 h578
                          refine q_callVi hE (M' := mX12_eatsSign) (as := [_]) dX12_readTurner_219 lk12_221 inX12_eatsSign seX12_eatsSign myX12_eatsSign (by decide) ⟨by decide, by decide⟩ rfl (kR15 hS551.1 ta0) (Nat.le_of_ble_eq_true rfl) rfl rfl (by decide) (by decide) (fk_X12_eatsSign hS551.1 (gB) ((tkN gB gs426)) ta0 (TxA.kp hT hS551 ta0 rfl rfl rfl (by decide +kernel) (by decide +kernel)) (by (try rw [c558]); first | done | with_reducible assumption | omega) (by (try rw [c558]); first | done | with_reducible assumption | omega) (by (try rw [c561]); first | done | with_reducible assumption | omega) (by (try rw [c564]); first | done | with_reducible assumption | omega) (by (try rw [c566]); first | done | assumption) (by (try rw [c568]); first | done | assumption) (by (try rw [c570]); first | done | assumption) (by (try rw [((hS551.cell ta0 (by decide +kernel)).trans c26)]); first | done | with_reducible assumption | omega) (by first | done | with_reducible assumption | omega)) ?_
                          rintro v584 cn' K' N' I579 R580 L581 ⟨rfl, rfl, rfl, rfl, g582, gl583, h585, dj586, -⟩
                          have hM587 : NmM I579 R0 L539 a1 gQ := NmM.kpS hM556 g582 hS551.1 ta1 (by decide +kernel) (by decide +kernel)
                          have hS588 := hS551.tr g582 (by decide +kernel) (by decide +kernel)
                          have c589 : I579 a1 4 = v435 := (g582.cell ta1 (by decide +kernel)).trans c552
                          have c590 : I579 a0 13 = v522 := (g582.cell ta0 (by decide +kernel)).trans c553
                          have hO591 : FrO 14 a1 T I0 I579 := hO554.st g582 (by decide +kernel)
                          have hL592 := hL555.tr gl583 (by decide +kernel)
                          have hM593 : NmM I579 R0 L581 a1 gQ := NmM.kpL hM587 gl583 hS588.1 ta1 (by decide +kernel)
                          rcases dj586 with ⟨p594, p595, p596, p597, p598, p599, p600, p601, p602, p603, -⟩ | ⟨p604, p605, p606, p607, p608, p609, p610, p611, p612, p613, -⟩
                          · skip
                            rw [c590] at p596
                            rw [c553] at p596
                            obtain ⟨v614, c615⟩ : ∃ v, I579 a0 9 = v := ⟨_, rfl⟩
                            have b616 := iv15_9 hS588.1 ta0 c615
                            rw [c615] at p597
                            rw [c615] at p598
                            obtain ⟨v617, c618⟩ : ∃ v, I579 a0 10 = v := ⟨_, rfl⟩
                            have b619 := iv15_10 hS588.1 ta0 c618
                            rw [c618] at p599
                            obtain ⟨v620, c621⟩ : ∃ v, I579 a0 11 = v := ⟨_, rfl⟩
                            rw [c621] at p600
                            obtain ⟨y622, c623⟩ : ∃ v, L581 a0 15 = v := ⟨_, rfl⟩
                            rw [c623] at p601
                            obtain ⟨v624, c625⟩ : ∃ v, I579 a0 12 = v := ⟨_, rfl⟩
                            rw [c625] at p602
                            obtain ⟨v626, c627⟩ : ∃ v, I579 a0 8 = v := ⟨_, rfl⟩
                            have b628 := iv15_8 hS588.1 ta0 c627
                            rw [c627] at p603
                            refine tr_istore dX12_readTurner_222 (by decide) (by decide) ?_
                            refine tr_goto 159 dX12_readTurner_224 (by decide) ?_
                            have q1 := tkS_nx gB gs426 (by omega)
                            have q2 := tkS_nx gB (tkN gB gs426) (by omega)
                            exact ih466 _ v574 v584 I579 L581 ((tkN gB (tkN gB gs426))) (gk473) ((gh428 + pw (tkV gB gs426))) v522 v435 v614 v617 v620 y622 v624 v626 hl415 hl416 hl417 hl418 hl419 hl420 hl421 rfl rfl hS588 hL592 hM593 hO591 c590 c589 c615 c618 c621 c623 c625 c627 (by rw [← g449]; simp only [huF, ↓reduceIte]; repeat' (first | split | omega)) (by rw [← g450]; simp only [huP, ↓reduceIte]; repeat' (first | split | omega)) (by rw [← g451]; simp only [huS, ↓reduceIte]; repeat' (first | split | omega)) (by omega) (by omega) (by omega) (by omega) (by omega) (by have q1 := tkS_nx gB gs426 (by omega); have q2 := tkS_nx gB (tkN gB gs426) (by omega); omega) (by omega) (by omega) (by omega) (by omega) (by omega) (by assumption) (by assumption) (by assumption) (by omega)
                          · skip
                            rw [c590] at p606
                            rw [c553] at p606
                            obtain ⟨v629, c630⟩ : ∃ v, I579 a0 9 = v := ⟨_, rfl⟩
                            have b631 := iv15_9 hS588.1 ta0 c630
                            rw [c630] at p607
                            rw [c630] at p608
                            obtain ⟨v632, c633⟩ : ∃ v, I579 a0 10 = v := ⟨_, rfl⟩
                            have b634 := iv15_10 hS588.1 ta0 c633
                            rw [c633] at p609
                            obtain ⟨v635, c636⟩ : ∃ v, I579 a0 11 = v := ⟨_, rfl⟩
                            rw [c636] at p610
                            obtain ⟨y637, c638⟩ : ∃ v, L581 a0 15 = v := ⟨_, rfl⟩
                            rw [c638] at p611
                            obtain ⟨v639, c640⟩ : ∃ v, I579 a0 12 = v := ⟨_, rfl⟩
                            rw [c640] at p612
                            obtain ⟨v641, c642⟩ : ∃ v, I579 a0 8 = v := ⟨_, rfl⟩
                            have b643 := iv15_8 hS588.1 ta0 c642
                            rw [c642] at p613
                            refine tr_istore dX12_readTurner_222 (by decide) (by decide) ?_
                            refine tr_goto 159 dX12_readTurner_224 (by decide) ?_
                            refine tr_iload dX12_readTurner_159 rfl ?_
                            refine q_if_eq 227 dX12_readTurner_161 (by decide) (fun h644 => ?_) (fun h644 => ?_)
                            · skip
                              refine tr_aload_n dX12_readTurner_227 hl415 ?_
                              refine q_getI dX12_readTurner_228 fl12_99 (kR15 hS588.1 ta0) c630 ?_
                              refine q_iconst dX12_readTurner_231 (by decide) ?_
                              intro v645 h646
                              refine q_icmp_ne 236 dX12_readTurner_232 (by decide) (fun h647 => ?_) (fun h647 => ?_)
                              · skip
                                refine tr_aload_n dX12_readTurner_236 hl415 ?_
                                refine tr_getR dX12_readTurner_237 fl12_188 (kR15 hS588.1 ta0) d2 ?_
                                refine q_getI dX12_readTurner_240 fl12_315 (kR14 hS588.1 ta1) c589 ?_
                                refine tr_istore dX12_readTurner_243 (by decide) (by decide) ?_
                                refine tr_aload_n dX12_readTurner_245 hl415 ?_
                                refine tr_lload_n dX12_readTurner_246 hl416 ?_
                                refine q_iconst dX12_readTurner_247 (by decide) ?_
                                intro v648 h649
                                refine tr_iload dX12_readTurner_248 rfl ?_
                                obtain ⟨v651, c652⟩ : ∃ v, I579 a1 7 = v := ⟨_, rfl⟩
                                have b653 := iv14_7 hS588.1 ta1 c652
                                have p650 := hS588.1.2.2.2.2.1 a0 ta0 _ d2
                                rw [c652, ((hS588.cell ta1 (by decide +kernel)).trans c42), c589] at p650
                                refine q_callVv hE (M' := mX12_names) (as := [_, _, _]) dX12_readTurner_250 lk12_293 inX12_names seX12_names myX12_names (by decide) ⟨by decide, by decide⟩ rfl (kR15 hS588.1 ta0) (Nat.le_of_ble_eq_true rfl) rfl rfl (by decide) (by decide) (fk_X12_names hS588.1  ta0 (fun q0 z0 => by obtain rfl := Option.some.inj ((d2).symm.trans z0); (try rw [c652]); first | done | with_reducible assumption | omega) ⟨_, d2⟩) ?_
                                rintro cn' K' N' I654 R655 L656 ⟨rfl, rfl, rfl, rfl, g657, gl658, rp660, rp661, -⟩
                                have hS662 := hS588.tr g657 (by decide +kernel) (by decide +kernel)
                                have c663 : I654 a1 4 = v435 := (g657.cell ta1 (by decide +kernel)).trans c589
                                have c664 : I654 a0 13 = v522 := (g657.cell ta0 (by decide +kernel)).trans c590
                                have c665 : I654 a0 9 = v629 := (g657.cell ta0 (by decide +kernel)).trans c630
                                have c666 : I654 a0 10 = v632 := (g657.cell ta0 (by decide +kernel)).trans c633
                                have c667 : I654 a0 11 = v635 := (g657.cell ta0 (by decide +kernel)).trans c636
                                have c668 : I654 a0 12 = v639 := (g657.cell ta0 (by decide +kernel)).trans c640
                                have c669 : I654 a0 8 = v641 := (g657.cell ta0 (by decide +kernel)).trans c642
                                have hO670 : FrO 14 a1 T I0 I654 := hO591.tr (rp661 _ d2)
                                have hL671 := hL592.tr gl658 (by decide +kernel)
                                have c672 : L656 a0 15 = y637 := (gl658.cell ta0 (by decide +kernel)).trans c638
                                have hM673 := NmM.up7 (B := gB) (s := (tkN gB gs)) hM593 (rp660 _ d2) (by omega) (by omega) (by omega) (by rw [c652]; omega) (by omega) (by omega) (by omega)
                                refine tr_aload_n dX12_readTurner_253 hl415 ?_
                                refine tr_getR dX12_readTurner_254 fl12_188 (kR15 hS662.1 ta0) d2 ?_
                                obtain ⟨a674, d675, ta674⟩ := rf14_20 hW0 ta1
                                refine tr_getR dX12_readTurner_257 fl12_333 (kR14 hS662.1 ta1) d675 ?_
                                refine tr_iload dX12_readTurner_260 rfl ?_
                                refine tr_iload_n dX12_readTurner_262 hl417 ?_
                                refine q_iast dX12_readTurner_263 (kR63 hS662.1 ta674) (ti_in (nR63 hS662.1 ta674) (by omega) (by omega)) hS662 ta674 (iokF rfl) rfl (by rfl) ?_
                                intro I676 hS677 e679 f678
                                have c680 : I676 a1 4 = v435 := (f678 _ _ (fun q => by have z := ta1; rw [q.1, ta674] at z; exact absurd z (by decide))).trans c663
                                have c681 : I676 a0 13 = v522 := (f678 _ _ (fun q => by have z := ta0; rw [q.1, ta674] at z; exact absurd z (by decide))).trans c664
                                have c682 : I676 a0 9 = v629 := (f678 _ _ (fun q => by have z := ta0; rw [q.1, ta674] at z; exact absurd z (by decide))).trans c665
                                have c683 : I676 a0 10 = v632 := (f678 _ _ (fun q => by have z := ta0; rw [q.1, ta674] at z; exact absurd z (by decide))).trans c666
                                have c684 : I676 a0 11 = v635 := (f678 _ _ (fun q => by have z := ta0; rw [q.1, ta674] at z; exact absurd z (by decide))).trans c667
                                have c685 : I676 a0 12 = v639 := (f678 _ _ (fun q => by have z := ta0; rw [q.1, ta674] at z; exact absurd z (by decide))).trans c668
                                have c686 : I676 a0 8 = v641 := (f678 _ _ (fun q => by have z := ta0; rw [q.1, ta674] at z; exact absurd z (by decide))).trans c669
                                have hO687 : FrO 14 a1 T I0 I676 := hO670.put f678 ta674 (Or.inl (by decide))
                                have hM688 : NmM I676 R0 L656 a1 (bdQ gB gQ 7 (tkN gB gs)) := NmM.kp1 hM673 f678 ta674 rfl rfl hS662.1 ta1
                                refine tr_aload_n dX12_readTurner_264 hl415 ?_
                                refine tr_getR dX12_readTurner_265 fl12_188 (kR15 hS677.1 ta0) d2 ?_
                                obtain ⟨a689, d690, ta689⟩ := rf14_21 hW0 ta1
                                refine tr_getR dX12_readTurner_268 fl12_336 (kR14 hS677.1 ta1) d690 ?_
                                refine tr_iload dX12_readTurner_271 rfl ?_
                                refine tr_iload dX12_readTurner_273 hl418 ?_
                                refine q_iast dX12_readTurner_275 (kR64 hS677.1 ta689) (ti_in (nR64 hS677.1 ta689) (by omega) (by omega)) hS677 ta689 (iokF rfl) rfl (by rfl) ?_
                                intro I691 hS692 e694 f693
                                have c695 : I691 a1 4 = v435 := (f693 _ _ (fun q => by have z := ta1; rw [q.1, ta689] at z; exact absurd z (by decide))).trans c680
                                have c696 : I691 a0 13 = v522 := (f693 _ _ (fun q => by have z := ta0; rw [q.1, ta689] at z; exact absurd z (by decide))).trans c681
                                have c697 : I691 a0 9 = v629 := (f693 _ _ (fun q => by have z := ta0; rw [q.1, ta689] at z; exact absurd z (by decide))).trans c682
                                have c698 : I691 a0 10 = v632 := (f693 _ _ (fun q => by have z := ta0; rw [q.1, ta689] at z; exact absurd z (by decide))).trans c683
                                have c699 : I691 a0 11 = v635 := (f693 _ _ (fun q => by have z := ta0; rw [q.1, ta689] at z; exact absurd z (by decide))).trans c684
                                have c700 : I691 a0 12 = v639 := (f693 _ _ (fun q => by have z := ta0; rw [q.1, ta689] at z; exact absurd z (by decide))).trans c685
                                have c701 : I691 a0 8 = v641 := (f693 _ _ (fun q => by have z := ta0; rw [q.1, ta689] at z; exact absurd z (by decide))).trans c686
                                have hO702 : FrO 14 a1 T I0 I691 := hO687.put f693 ta689 (Or.inl (by decide))
                                have hM703 : NmM I691 R0 L656 a1 (bdQ gB gQ 7 (tkN gB gs)) := NmM.kp1 hM688 f693 ta689 rfl rfl hS677.1 ta1
                                refine tr_aload_n dX12_readTurner_276 hl415 ?_
                                refine tr_getR dX12_readTurner_277 fl12_188 (kR15 hS692.1 ta0) d2 ?_
                                obtain ⟨a704, d705, ta704⟩ := rf14_22 hW0 ta1
                                refine tr_getR dX12_readTurner_280 fl12_339 (kR14 hS692.1 ta1) d705 ?_
                                refine tr_iload dX12_readTurner_283 rfl ?_
                                refine tr_iload dX12_readTurner_285 hl419 ?_
                                refine q_iast dX12_readTurner_287 (kR65 hS692.1 ta704) (ti_in (nR65 hS692.1 ta704) (by omega) (by omega)) hS692 ta704 (iokF rfl) rfl (by rfl) ?_
                                intro I706 hS707 e709 f708
                                have c710 : I706 a1 4 = v435 := (f708 _ _ (fun q => by have z := ta1; rw [q.1, ta704] at z; exact absurd z (by decide))).trans c695
                                have c711 : I706 a0 13 = v522 := (f708 _ _ (fun q => by have z := ta0; rw [q.1, ta704] at z; exact absurd z (by decide))).trans c696
                                have c712 : I706 a0 9 = v629 := (f708 _ _ (fun q => by have z := ta0; rw [q.1, ta704] at z; exact absurd z (by decide))).trans c697
                                have c713 : I706 a0 10 = v632 := (f708 _ _ (fun q => by have z := ta0; rw [q.1, ta704] at z; exact absurd z (by decide))).trans c698
                                have c714 : I706 a0 11 = v635 := (f708 _ _ (fun q => by have z := ta0; rw [q.1, ta704] at z; exact absurd z (by decide))).trans c699
                                have c715 : I706 a0 12 = v639 := (f708 _ _ (fun q => by have z := ta0; rw [q.1, ta704] at z; exact absurd z (by decide))).trans c700
                                have c716 : I706 a0 8 = v641 := (f708 _ _ (fun q => by have z := ta0; rw [q.1, ta704] at z; exact absurd z (by decide))).trans c701
                                have hO717 : FrO 14 a1 T I0 I706 := hO702.put f708 ta704 (Or.inl (by decide))
                                have hM718 : NmM I706 R0 L656 a1 (bdQ gB gQ 7 (tkN gB gs)) := NmM.kp1 hM703 f708 ta704 rfl rfl hS692.1 ta1
                                refine tr_aload_n dX12_readTurner_288 hl415 ?_
                                refine tr_getR dX12_readTurner_289 fl12_188 (kR15 hS707.1 ta0) d2 ?_
                                obtain ⟨a719, d720, ta719⟩ := rf14_23 hW0 ta1
                                refine tr_getR dX12_readTurner_292 fl12_342 (kR14 hS707.1 ta1) d720 ?_
                                refine tr_iload dX12_readTurner_295 rfl ?_
                                refine tr_iload dX12_readTurner_297 hl420 ?_
                                refine q_iast dX12_readTurner_299 (kR66 hS707.1 ta719) (ti_in (nR66 hS707.1 ta719) (by omega) (by omega)) hS707 ta719 (iokF rfl) rfl (by rfl) ?_
                                intro I721 hS722 e724 f723
                                have c725 : I721 a1 4 = v435 := (f723 _ _ (fun q => by have z := ta1; rw [q.1, ta719] at z; exact absurd z (by decide))).trans c710
                                have c726 : I721 a0 13 = v522 := (f723 _ _ (fun q => by have z := ta0; rw [q.1, ta719] at z; exact absurd z (by decide))).trans c711
                                have c727 : I721 a0 9 = v629 := (f723 _ _ (fun q => by have z := ta0; rw [q.1, ta719] at z; exact absurd z (by decide))).trans c712
                                have c728 : I721 a0 10 = v632 := (f723 _ _ (fun q => by have z := ta0; rw [q.1, ta719] at z; exact absurd z (by decide))).trans c713
                                have c729 : I721 a0 11 = v635 := (f723 _ _ (fun q => by have z := ta0; rw [q.1, ta719] at z; exact absurd z (by decide))).trans c714
                                have c730 : I721 a0 12 = v639 := (f723 _ _ (fun q => by have z := ta0; rw [q.1, ta719] at z; exact absurd z (by decide))).trans c715
                                have c731 : I721 a0 8 = v641 := (f723 _ _ (fun q => by have z := ta0; rw [q.1, ta719] at z; exact absurd z (by decide))).trans c716
                                have hO732 : FrO 14 a1 T I0 I721 := hO717.put f723 ta719 (Or.inl (by decide))
                                have hM733 : NmM I721 R0 L656 a1 (bdQ gB gQ 7 (tkN gB gs)) := NmM.kp1 hM718 f723 ta719 rfl rfl hS707.1 ta1
                                refine tr_aload_n dX12_readTurner_300 hl415 ?_
                                refine tr_getR dX12_readTurner_301 fl12_188 (kR15 hS722.1 ta0) d2 ?_
                                obtain ⟨a734, d735, ta734⟩ := rf14_24 hW0 ta1
                                refine tr_getR dX12_readTurner_304 fl12_344 (kR14 hS722.1 ta1) d735 ?_
                                refine tr_iload dX12_readTurner_307 rfl ?_
                                refine tr_iload dX12_readTurner_309 hl421 ?_
                                refine q_iast dX12_readTurner_311 (kR67 hS722.1 ta734) (ti_in (nR67 hS722.1 ta734) (by omega) (by omega)) hS722 ta734 (iokF rfl) rfl (by rfl) ?_
                                intro I736 hS737 e739 f738
                                have c740 : I736 a1 4 = v435 := (f738 _ _ (fun q => by have z := ta1; rw [q.1, ta734] at z; exact absurd z (by decide))).trans c725
                                have c741 : I736 a0 13 = v522 := (f738 _ _ (fun q => by have z := ta0; rw [q.1, ta734] at z; exact absurd z (by decide))).trans c726
                                have c742 : I736 a0 9 = v629 := (f738 _ _ (fun q => by have z := ta0; rw [q.1, ta734] at z; exact absurd z (by decide))).trans c727
                                have c743 : I736 a0 10 = v632 := (f738 _ _ (fun q => by have z := ta0; rw [q.1, ta734] at z; exact absurd z (by decide))).trans c728
                                have c744 : I736 a0 11 = v635 := (f738 _ _ (fun q => by have z := ta0; rw [q.1, ta734] at z; exact absurd z (by decide))).trans c729
                                have c745 : I736 a0 12 = v639 := (f738 _ _ (fun q => by have z := ta0; rw [q.1, ta734] at z; exact absurd z (by decide))).trans c730
                                have c746 : I736 a0 8 = v641 := (f738 _ _ (fun q => by have z := ta0; rw [q.1, ta734] at z; exact absurd z (by decide))).trans c731
                                have hO747 : FrO 14 a1 T I0 I736 := hO732.put f738 ta734 (Or.inl (by decide))
                                have hM748 : NmM I736 R0 L656 a1 (bdQ gB gQ 7 (tkN gB gs)) := NmM.kp1 hM733 f738 ta734 rfl rfl hS722.1 ta1
                                refine tr_aload_n dX12_readTurner_312 hl415 ?_
                                refine tr_getR dX12_readTurner_313 fl12_188 (kR15 hS737.1 ta0) d2 ?_
                                obtain ⟨a749, d750, ta749⟩ := rf14_25 hW0 ta1
                                refine tr_getR dX12_readTurner_316 fl12_346 (kR14 hS737.1 ta1) d750 ?_
                                refine tr_iload dX12_readTurner_319 rfl ?_
                                refine tr_iload dX12_readTurner_321 rfl ?_
                                refine q_iast dX12_readTurner_323 (kR68 hS737.1 ta749) (ti_in (nR68 hS737.1 ta749) (by omega) (by omega)) hS737 ta749 (iokF rfl) rfl (by rfl) ?_
                                intro I751 hS752 e754 f753
                                have c755 : I751 a1 4 = v435 := (f753 _ _ (fun q => by have z := ta1; rw [q.1, ta749] at z; exact absurd z (by decide))).trans c740
                                have c756 : I751 a0 13 = v522 := (f753 _ _ (fun q => by have z := ta0; rw [q.1, ta749] at z; exact absurd z (by decide))).trans c741
                                have c757 : I751 a0 9 = v629 := (f753 _ _ (fun q => by have z := ta0; rw [q.1, ta749] at z; exact absurd z (by decide))).trans c742
                                have c758 : I751 a0 10 = v632 := (f753 _ _ (fun q => by have z := ta0; rw [q.1, ta749] at z; exact absurd z (by decide))).trans c743
                                have c759 : I751 a0 11 = v635 := (f753 _ _ (fun q => by have z := ta0; rw [q.1, ta749] at z; exact absurd z (by decide))).trans c744
                                have c760 : I751 a0 12 = v639 := (f753 _ _ (fun q => by have z := ta0; rw [q.1, ta749] at z; exact absurd z (by decide))).trans c745
                                have c761 : I751 a0 8 = v641 := (f753 _ _ (fun q => by have z := ta0; rw [q.1, ta749] at z; exact absurd z (by decide))).trans c746
                                have hO762 : FrO 14 a1 T I0 I751 := hO747.put f753 ta749 (Or.inl (by decide))
                                have hM763 : NmM I751 R0 L656 a1 (bdQ gB gQ 7 (tkN gB gs)) := NmM.kp1 hM748 f753 ta749 rfl rfl hS737.1 ta1
                                refine tr_aload_n dX12_readTurner_324 hl415 ?_
                                refine tr_getR dX12_readTurner_325 fl12_188 (kR15 hS752.1 ta0) d2 ?_
                                refine tr_dup dX12_readTurner_328 rfl ?_
                                refine q_getI dX12_readTurner_329 fl12_315 (kR14 hS752.1 ta1) c755 ?_
                                refine q_iconst dX12_readTurner_332 (by decide) ?_
                                intro v764 h765
                                refine q_iaddE dX12_readTurner_333 (by intros; omega) ?_
                                intro v766 h767
                                refine q_putX dX12_readTurner_334 fl12_315 (kR14 hS752.1 ta1) (Or.inl rfl) hS752 ta1 (by decide +kernel) (hS752.1.putN (d' := 0) ta0 d2 (Or.inr (Or.inr rfl)) (by rw [c755]; omega) (by decide) (by show (0 : Int) ≤ v766.toInt ∧ v766.toInt ≤ (5 : Int); omega)) ?_
                                intro I768 hS769 e770 f771
                                have c772 : I768 a0 13 = v522 := (f771 _ _ (fun q => absurd q.2 (by decide))).trans c756
                                have c773 : I768 a0 9 = v629 := (f771 _ _ (fun q => absurd q.2 (by decide))).trans c757
                                have c774 : I768 a0 10 = v632 := (f771 _ _ (fun q => absurd q.2 (by decide))).trans c758
                                have c775 : I768 a0 11 = v635 := (f771 _ _ (fun q => absurd q.2 (by decide))).trans c759
                                have c776 : I768 a0 12 = v639 := (f771 _ _ (fun q => absurd q.2 (by decide))).trans c760
                                have c777 : I768 a0 8 = v641 := (f771 _ _ (fun q => absurd q.2 (by decide))).trans c761
                                have hO778 : FrO 14 a1 T I0 I768 := hO762.put f771 ta1 (Or.inr rfl)
                                have hM779 : NmM I768 R0 L656 a1 (bdQ gB gQ 7 (tkN gB gs)) := NmM.kp1 hM763 f771 ta1 rfl rfl hS752.1 ta1
                                obtain ⟨v780, c781⟩ : ∃ v, I768 a0 14 = v := ⟨_, rfl⟩
                                have u782 : huF gB gQ 901 0 (tkN gB (tkN gB (tkN gB (tkN gB (tkN gB (tkN gB (tkN gB (tkN gB (tkN gB (tkN gB (tkN gB (tkN gB gs)))))))))))) = 0 := by rw [← g449]; simp only [huF, ↓reduceIte]; repeat' (first | split | omega)
                                have eF := hF.eq
                                have eP := hP.eq
                                have es783 : tuS gB gQ (tkN gB gs) = (tkN gB gs426) := by rw [tuS, ← g451]; simp only [huS, ↓reduceIte]; repeat' (first | split | omega)
                                exact tr_vret hZ dX12_readTurner_337 rfl (by decide) (by decide) (hq _ _ _ ⟨hS769, (fun dr hd => (Option.some.inj (d2.symm.trans hd)) ▸ hO778), (Or.inl ⟨(by (try rw [w76]); (try rw [es783]); first | done | with_reducible assumption | omega), (fun q0 z0 => by obtain rfl := Option.some.inj ((d2).symm.trans z0); (try rw [w76]); (try rw [es783]); (try rw [((hS769.cell ta1 (by decide +kernel)).trans c30)]); first | done | with_reducible assumption | omega), (fun q0 z0 => by obtain rfl := Option.some.inj ((d2).symm.trans z0); (try rw [w76]); (try rw [es783]); (try rw [((hS769.cell ta1 (by decide +kernel)).trans c34)]); first | done | with_reducible assumption | omega), (fun q0 z0 => by obtain rfl := Option.some.inj ((d2).symm.trans z0); (try rw [w76]); (try rw [es783]); (try rw [((hS769.cell ta1 (by decide +kernel)).trans c38)]); first | done | with_reducible assumption | omega), (fun q0 z0 => by obtain rfl := Option.some.inj ((d2).symm.trans z0); (try rw [w76]); (try rw [es783]); (try rw [((hS769.cell ta1 (by decide +kernel)).trans c42)]); first | done | with_reducible assumption | omega), (fun q0 z0 => by obtain rfl := Option.some.inj ((d2).symm.trans z0); (try rw [w76]); (try rw [es783]); (try rw [e770]); first | done | with_reducible assumption | omega), (fun q0 z0 => by obtain rfl := Option.some.inj ((d2).symm.trans z0); (try rw [w76]); (try rw [es783]); (try rw [((hS769.cell ta1 (by decide +kernel)).trans c50)]); first | done | with_reducible assumption | omega), (fun q0 z0 => by obtain rfl := Option.some.inj ((d2).symm.trans z0); (try rw [w76]); (try rw [es783]); (try rw [((hS769.cell ta1 (by decide +kernel)).trans c54)]); first | done | with_reducible assumption | omega), (fun q0 z0 => by obtain rfl := Option.some.inj ((d2).symm.trans z0); (try rw [w76]); (try rw [es783]); (try rw [((hS769.cell ta1 (by decide +kernel)).trans c58)]); first | done | with_reducible assumption | omega), (by (try rw [w76]); (try rw [es783]); (try rw [c772]); (try rw [c72]); first | done | with_reducible assumption | omega), (by (try rw [w76]); (try rw [es783]); (try rw [c773]); first | done | with_reducible assumption | omega), (by (try rw [w76]); (try rw [es783]); (try rw [c773]); first | done | with_reducible assumption | omega), (by (try rw [w76]); (try rw [es783]); (try rw [c774]); first | done | with_reducible assumption | omega), (by (try rw [w76]); (try rw [es783]); (try rw [c775]); first | done | with_reducible assumption | omega), (by (try rw [w76]); (try rw [es783]); (try rw [c672]); first | done | assumption), (by (try rw [w76]); (try rw [es783]); (try rw [c776]); first | done | assumption), (by (try rw [w76]); (try rw [es783]); (try rw [c777]); first | done | assumption), hL671, (fun b hb => (Option.some.inj (d2.symm.trans hb)) ▸ NmM.ln hM779 (by omega)), trivial⟩), trivial⟩)
                              · skip
                                exfalso; omega
                            · skip
                              exfalso; omega
                        · skip
                          refine tr_aload_n dX12_readTurner_198 hl415 ?_
                          refine q_iconst dX12_readTurner_199 (by decide) ?_
                          intro v784 h785
                          refine q_callVv hE (M' := mX12_flaw) (as := [_]) dX12_readTurner_200 lk12_145 inX12_flaw seX12_flaw myX12_flaw (by decide) ⟨by decide, by decide⟩ rfl (kR15 hS492.1 ta0) (Nat.le_of_ble_eq_true rfl) rfl rfl (by decide) (by decide) (fk_X12_flaw hS492.1  ta0 (by omega) (by (try rw [c525]); first | done | with_reducible assumption | omega)) ?_
                          rintro cn' K' N' I786 R787 L788 ⟨rfl, rfl, rfl, rfl, rfl, g789, p792, p793, p794, -⟩
                          have hM795 : NmM I786 R0 L425 a1 gQ := NmM.kpS hM491 g789 hS492.1 ta1 (by decide +kernel) (by decide +kernel)
                          have hS796 := hS492.tr g789 (by decide +kernel) (by decide +kernel)
                          have c797 : I786 a1 4 = v435 := (g789.cell ta1 (by decide +kernel)).trans c493
                          have c798 : I786 a0 10 = v439 := (g789.cell ta0 (by decide +kernel)).trans c494
                          have c799 : I786 a0 11 = v441 := (g789.cell ta0 (by decide +kernel)).trans c495
                          have c800 : I786 a0 12 = v445 := (g789.cell ta0 (by decide +kernel)).trans c496
                          have c801 : I786 a0 8 = v447 := (g789.cell ta0 (by decide +kernel)).trans c497
                          have hO802 : FrO 14 a1 T I0 I786 := hO498.st g789 (by decide +kernel)
                          obtain ⟨v803, c804⟩ : ∃ v, I786 a0 9 = v := ⟨_, rfl⟩
                          have b805 := iv15_9 hS796.1 ta0 c804
                          rw [c804] at p792
                          obtain ⟨v806, c807⟩ : ∃ v, I786 a0 13 = v := ⟨_, rfl⟩
                          rw [c807] at p793
                          obtain ⟨v808, c809⟩ : ∃ v, I786 a0 14 = v := ⟨_, rfl⟩
                          rw [c809] at p794
                          rw [c494] at p794
                          refine tr_aload_n dX12_readTurner_203 hl415 ?_
                          refine q_callVv hE (M' := mX12_goesOn) (as := []) dX12_readTurner_204 lk12_142 inX12_goesOn seX12_goesOn myX12_goesOn (by decide) ⟨by decide, by decide⟩ rfl (kR15 hS796.1 ta0) (Nat.le_of_ble_eq_true rfl) rfl rfl (by decide) (by decide) (k_X12_goesOn hS796.1 ta0) ?_
                          rintro cn' K' N' I810 R811 L812 ⟨rfl, rfl, rfl, rfl, g813, p815, p816, p817, w818, -⟩
                          have hS819 := hS796.tr g813 (by decide +kernel) (by decide +kernel)
                          have c820 : I810 a1 4 = v435 := (g813.cell ta1 (by decide +kernel)).trans c797
                          have c821 : I810 a0 13 = v806 := (g813.cell ta0 (by decide +kernel)).trans c807
                          have c822 : I810 a0 14 = v808 := (g813.cell ta0 (by decide +kernel)).trans c809
                          obtain ⟨v823, c824⟩ : ∃ v, I810 a0 9 = v := ⟨_, rfl⟩
                          have b825 := iv15_9 hS819.1 ta0 c824
                          rw [c804] at p815
                          rw [c824] at p815
                          rw [c804] at p816
                          rw [c824] at p816
                          obtain ⟨v826, c827⟩ : ∃ v, I810 a0 8 = v := ⟨_, rfl⟩
                          have b828 := iv15_8 hS819.1 ta0 c827
                          rw [c827] at p817
                          rw [c801] at p817
                          rw [c821] at p817
                          rw [c807] at p817
                          have hO829 : FrO 14 a1 T I0 I810 := hO802.st g813 (by decide +kernel)
                          have ov830 := w818.over (by rw [c804]; omega)
                          obtain ⟨v831, c832⟩ : ∃ v, I810 a0 9 = v := ⟨_, rfl⟩
                          have b833 := iv15_9 hS819.1 ta0 c832
                          obtain ⟨v834, c835⟩ : ∃ v, I810 a0 13 = v := ⟨_, rfl⟩
                          obtain ⟨v836, c837⟩ : ∃ v, I810 a0 14 = v := ⟨_, rfl⟩
                          (try rw [c832] at ov830)
                          (try rw [c835] at ov830)
                          (try rw [c837] at ov830)
                          (try rw [c804] at ov830)
                          (try rw [c807] at ov830)
                          (try rw [c809] at ov830)
                          refine tr_iload dX12_readTurner_207 hl422 ?_
                          refine q_iconst dX12_readTurner_209 (by decide) ?_
                          intro v838 h839
                          refine tr_iload dX12_readTurner_210 rfl ?_
                          refine q_ishlE dX12_readTurner_212 (by omega) (by omega) ?_
                          intro v840 h841
                          refine q_ior dX12_readTurner_213 ?_
                          intro v842
                          refine tr_istore dX12_readTurner_214 (by decide) (by decide) ?_
                          refine tr_aload_n dX12_readTurner_216 hl415 ?_
                          refine q_bipush dX12_readTurner_217 (by decide +kernel) ?_
                          intro v843 h844
                          refine q_callVi hE (M' := mX12_eatsSign) (as := [_]) dX12_readTurner_219 lk12_221 inX12_eatsSign seX12_eatsSign myX12_eatsSign (by decide) ⟨by decide, by decide⟩ rfl (kR15 hS819.1 ta0) (Nat.le_of_ble_eq_true rfl) rfl rfl (by decide) (by decide) (k_X12_eatsSign hS819.1 ta0) ?_
                          rintro v849 cn' K' N' I845 R846 L847 ⟨rfl, rfl, rfl, rfl, g848, h850, p851, p852, w853, -⟩
                          have hS854 := hS819.tr g848 (by decide +kernel) (by decide +kernel)
                          have c855 : I845 a1 4 = v435 := (g848.cell ta1 (by decide +kernel)).trans c820
                          have c856 : I845 a0 13 = v834 := (g848.cell ta0 (by decide +kernel)).trans c835
                          have c857 : I845 a0 14 = v836 := (g848.cell ta0 (by decide +kernel)).trans c837
                          rw [c832] at p851
                          obtain ⟨v858, c859⟩ : ∃ v, I845 a0 8 = v := ⟨_, rfl⟩
                          have b860 := iv15_8 hS854.1 ta0 c859
                          rw [c859] at p852
                          rw [c827] at p852
                          have hO861 : FrO 14 a1 T I0 I845 := hO829.st g848 (by decide +kernel)
                          have ov862 := w853.over (by rw [c832]; omega)
                          obtain ⟨v863, c864⟩ : ∃ v, I845 a0 9 = v := ⟨_, rfl⟩
                          have b865 := iv15_9 hS854.1 ta0 c864
                          obtain ⟨v866, c867⟩ : ∃ v, I845 a0 13 = v := ⟨_, rfl⟩
                          obtain ⟨v868, c869⟩ : ∃ v, I845 a0 14 = v := ⟨_, rfl⟩
                          (try rw [c864] at ov862)
                          (try rw [c867] at ov862)
                          (try rw [c869] at ov862)
                          (try rw [c832] at ov862)
                          (try rw [c835] at ov862)
                          (try rw [c837] at ov862)
                          refine tr_istore dX12_readTurner_222 (by decide) (by decide) ?_
                          refine tr_goto 159 dX12_readTurner_224 (by decide) ?_
                          refine tr_iload dX12_readTurner_159 rfl ?_
                          refine q_if_eq 227 dX12_readTurner_161 (by decide) (fun h870 => ?_) (fun h870 => ?_)
                          · skip
                            refine tr_aload_n dX12_readTurner_227 hl415 ?_
                            refine q_getI dX12_readTurner_228 fl12_99 (kR15 hS854.1 ta0) c864 ?_
                            refine q_iconst dX12_readTurner_231 (by decide) ?_
                            intro v871 h872
                            refine q_icmp_ne 236 dX12_readTurner_232 (by decide) (fun h873 => ?_) (fun h873 => ?_)
                            · skip
                              exfalso; omega
                            · skip
                              have u874 : huF gB gQ 901 0 (tkN gB (tkN gB (tkN gB (tkN gB (tkN gB (tkN gB (tkN gB (tkN gB (tkN gB (tkN gB (tkN gB (tkN gB gs)))))))))))) = v866.toInt := by rw [← g449]; simp only [huF, ↓reduceIte]; repeat' (first | split | omega)
                              have u874p : huP gB gQ 901 0 (tkN gB (tkN gB (tkN gB (tkN gB (tkN gB (tkN gB (tkN gB (tkN gB (tkN gB (tkN gB (tkN gB (tkN gB gs)))))))))))) = v868.toInt := by rw [← g450]; simp only [huP, ↓reduceIte]; repeat' (first | split | omega)
                              have eF := hF.eq
                              have eP := hP.eq
                              obtain ⟨v875, c876⟩ : ∃ v, I845 a0 10 = v := ⟨_, rfl⟩
                              have b877 := iv15_10 hS854.1 ta0 c876
                              obtain ⟨v878, c879⟩ : ∃ v, I845 a0 11 = v := ⟨_, rfl⟩
                              obtain ⟨y880, c881⟩ : ∃ v, L847 a0 15 = v := ⟨_, rfl⟩
                              obtain ⟨v882, c883⟩ : ∃ v, I845 a0 12 = v := ⟨_, rfl⟩
                              exact tr_vret hZ dX12_readTurner_235 rfl (by decide) (by decide) (hq _ _ _ ⟨hS854, (fun dr hd => (Option.some.inj (d2.symm.trans hd)) ▸ hO861), (Or.inr (⟨(by (try rw [w76]); first | done | with_reducible assumption | omega), (by (try rw [w76]); (try rw [c864]); first | done | with_reducible assumption | omega), (by (try rw [w76]); (try rw [c867]); first | done | with_reducible assumption | omega), (by (try rw [w76]); (try rw [c869]); first | done | with_reducible assumption | omega), trivial⟩)), trivial⟩)
                          · skip
                            exfalso; omega
                      · skip
                        obtain ⟨v884, c885⟩ : ∃ v, I484 a0 9 = v := ⟨_, rfl⟩
                        have b886 := iv15_9 hS492.1 ta0 c885
                        rw [c885] at p513
                        obtain ⟨v887, c888⟩ : ∃ v, I484 a0 13 = v := ⟨_, rfl⟩
                        rw [c888] at p514
                        obtain ⟨v889, c890⟩ : ∃ v, I484 a0 14 = v := ⟨_, rfl⟩
                        rw [c890] at p515
                        refine tr_istore dX12_readTurner_186 (by decide) (by decide) ?_
                        refine tr_iload dX12_readTurner_188 hl422 ?_
                        refine tr_iload dX12_readTurner_190 rfl ?_
                        refine q_callSi hE (M' := mX12_has) (as := [_, _]) dX12_readTurner_192 lk12_329 inX12_has myX12_has ⟨by decide, by decide⟩ rfl (Nat.le_of_ble_eq_true rfl) rfl rfl (by decide) (by decide) (k_X12_has hS492.1 ) ?_
                        rintro v895 cn' K' N' I891 R892 L893 ⟨rfl, rfl, rfl, rfl, rfl, rfl, h896, -⟩
                        refine q_if_eq 203 dX12_readTurner_195 (by decide) (fun h897 => ?_) (fun h897 => ?_)
                        · skip
                          refine tr_aload_n dX12_readTurner_203 hl415 ?_
                          refine q_callVv hE (M' := mX12_goesOn) (as := []) dX12_readTurner_204 lk12_142 inX12_goesOn seX12_goesOn myX12_goesOn (by decide) ⟨by decide, by decide⟩ rfl (kR15 hS492.1 ta0) (Nat.le_of_ble_eq_true rfl) rfl rfl (by decide) (by decide) (k_X12_goesOn hS492.1 ta0) ?_
                          rintro cn' K' N' I898 R899 L900 ⟨rfl, rfl, rfl, rfl, g901, p903, p904, p905, w906, -⟩
                          have hS907 := hS492.tr g901 (by decide +kernel) (by decide +kernel)
                          have c908 : I898 a1 4 = v435 := (g901.cell ta1 (by decide +kernel)).trans c493
                          have c909 : I898 a0 13 = v887 := (g901.cell ta0 (by decide +kernel)).trans c888
                          have c910 : I898 a0 14 = v889 := (g901.cell ta0 (by decide +kernel)).trans c890
                          obtain ⟨v911, c912⟩ : ∃ v, I898 a0 9 = v := ⟨_, rfl⟩
                          have b913 := iv15_9 hS907.1 ta0 c912
                          rw [c885] at p903
                          rw [c912] at p903
                          rw [c885] at p904
                          rw [c912] at p904
                          obtain ⟨v914, c915⟩ : ∃ v, I898 a0 8 = v := ⟨_, rfl⟩
                          have b916 := iv15_8 hS907.1 ta0 c915
                          rw [c915] at p905
                          rw [c497] at p905
                          rw [c909] at p905
                          rw [c888] at p905
                          have hO917 : FrO 14 a1 T I0 I898 := hO498.st g901 (by decide +kernel)
                          have ov918 := w906.over (by rw [c885]; omega)
                          obtain ⟨v919, c920⟩ : ∃ v, I898 a0 9 = v := ⟨_, rfl⟩
                          have b921 := iv15_9 hS907.1 ta0 c920
                          obtain ⟨v922, c923⟩ : ∃ v, I898 a0 13 = v := ⟨_, rfl⟩
                          obtain ⟨v924, c925⟩ : ∃ v, I898 a0 14 = v := ⟨_, rfl⟩
                          (try rw [c920] at ov918)
                          (try rw [c923] at ov918)
                          (try rw [c925] at ov918)
                          (try rw [c885] at ov918)
                          (try rw [c888] at ov918)
                          (try rw [c890] at ov918)
                          refine tr_iload dX12_readTurner_207 hl422 ?_
                          refine q_iconst dX12_readTurner_209 (by decide) ?_
                          intro v926 h927
                          refine tr_iload dX12_readTurner_210 rfl ?_
                          refine q_ishlE dX12_readTurner_212 (by omega) (by omega) ?_
                          intro v928 h929
                          refine q_ior dX12_readTurner_213 ?_
                          intro v930
                          refine tr_istore dX12_readTurner_214 (by decide) (by decide) ?_
                          refine tr_aload_n dX12_readTurner_216 hl415 ?_
                          refine q_bipush dX12_readTurner_217 (by decide +kernel) ?_
                          intro v931 h932
                          refine q_callVi hE (M' := mX12_eatsSign) (as := [_]) dX12_readTurner_219 lk12_221 inX12_eatsSign seX12_eatsSign myX12_eatsSign (by decide) ⟨by decide, by decide⟩ rfl (kR15 hS907.1 ta0) (Nat.le_of_ble_eq_true rfl) rfl rfl (by decide) (by decide) (k_X12_eatsSign hS907.1 ta0) ?_
                          rintro v937 cn' K' N' I933 R934 L935 ⟨rfl, rfl, rfl, rfl, g936, h938, p939, p940, w941, -⟩
                          have hS942 := hS907.tr g936 (by decide +kernel) (by decide +kernel)
                          have c943 : I933 a1 4 = v435 := (g936.cell ta1 (by decide +kernel)).trans c908
                          have c944 : I933 a0 13 = v922 := (g936.cell ta0 (by decide +kernel)).trans c923
                          have c945 : I933 a0 14 = v924 := (g936.cell ta0 (by decide +kernel)).trans c925
                          rw [c920] at p939
                          obtain ⟨v946, c947⟩ : ∃ v, I933 a0 8 = v := ⟨_, rfl⟩
                          have b948 := iv15_8 hS942.1 ta0 c947
                          rw [c947] at p940
                          rw [c915] at p940
                          have hO949 : FrO 14 a1 T I0 I933 := hO917.st g936 (by decide +kernel)
                          have ov950 := w941.over (by rw [c920]; omega)
                          obtain ⟨v951, c952⟩ : ∃ v, I933 a0 9 = v := ⟨_, rfl⟩
                          have b953 := iv15_9 hS942.1 ta0 c952
                          obtain ⟨v954, c955⟩ : ∃ v, I933 a0 13 = v := ⟨_, rfl⟩
                          obtain ⟨v956, c957⟩ : ∃ v, I933 a0 14 = v := ⟨_, rfl⟩
                          (try rw [c952] at ov950)
                          (try rw [c955] at ov950)
                          (try rw [c957] at ov950)
                          (try rw [c920] at ov950)
                          (try rw [c923] at ov950)
                          (try rw [c925] at ov950)
                          refine tr_istore dX12_readTurner_222 (by decide) (by decide) ?_
                          refine tr_goto 159 dX12_readTurner_224 (by decide) ?_
                          refine tr_iload dX12_readTurner_159 rfl ?_
                          refine q_if_eq 227 dX12_readTurner_161 (by decide) (fun h958 => ?_) (fun h958 => ?_)
                          · skip
                            refine tr_aload_n dX12_readTurner_227 hl415 ?_
                            refine q_getI dX12_readTurner_228 fl12_99 (kR15 hS942.1 ta0) c952 ?_
                            refine q_iconst dX12_readTurner_231 (by decide) ?_
                            intro v959 h960
                            refine q_icmp_ne 236 dX12_readTurner_232 (by decide) (fun h961 => ?_) (fun h961 => ?_)
                            · skip
                              exfalso; omega
                            · skip
                              have u962 : huF gB gQ 901 0 (tkN gB (tkN gB (tkN gB (tkN gB (tkN gB (tkN gB (tkN gB (tkN gB (tkN gB (tkN gB (tkN gB (tkN gB gs)))))))))))) = v954.toInt := by rw [← g449]; simp only [huF, ↓reduceIte]; repeat' (first | split | omega)
                              have u962p : huP gB gQ 901 0 (tkN gB (tkN gB (tkN gB (tkN gB (tkN gB (tkN gB (tkN gB (tkN gB (tkN gB (tkN gB (tkN gB (tkN gB gs)))))))))))) = v956.toInt := by rw [← g450]; simp only [huP, ↓reduceIte]; repeat' (first | split | omega)
                              have eF := hF.eq
                              have eP := hP.eq
                              obtain ⟨v963, c964⟩ : ∃ v, I933 a0 10 = v := ⟨_, rfl⟩
                              have b965 := iv15_10 hS942.1 ta0 c964
                              obtain ⟨v966, c967⟩ : ∃ v, I933 a0 11 = v := ⟨_, rfl⟩
                              obtain ⟨y968, c969⟩ : ∃ v, L935 a0 15 = v := ⟨_, rfl⟩
                              obtain ⟨v970, c971⟩ : ∃ v, I933 a0 12 = v := ⟨_, rfl⟩
                              exact tr_vret hZ dX12_readTurner_235 rfl (by decide) (by decide) (hq _ _ _ ⟨hS942, (fun dr hd => (Option.some.inj (d2.symm.trans hd)) ▸ hO949), (Or.inr (⟨(by (try rw [w76]); first | done | with_reducible assumption | omega), (by (try rw [w76]); (try rw [c952]); first | done | with_reducible assumption | omega), (by (try rw [w76]); (try rw [c955]); first | done | with_reducible assumption | omega), (by (try rw [w76]); (try rw [c957]); first | done | with_reducible assumption | omega), trivial⟩)), trivial⟩)
                          · skip
                            exfalso; omega
                        · skip
                          refine tr_aload_n dX12_readTurner_198 hl415 ?_
                          refine q_iconst dX12_readTurner_199 (by decide) ?_
                          intro v972 h973
                          refine q_callVv hE (M' := mX12_flaw) (as := [_]) dX12_readTurner_200 lk12_145 inX12_flaw seX12_flaw myX12_flaw (by decide) ⟨by decide, by decide⟩ rfl (kR15 hS492.1 ta0) (Nat.le_of_ble_eq_true rfl) rfl rfl (by decide) (by decide) (k_X12_flaw hS492.1 ta0 (by omega)) ?_
                          rintro cn' K' N' I974 R975 L976 ⟨rfl, rfl, rfl, rfl, rfl, g977, p979, p980, w981, -⟩
                          have hS982 := hS492.tr g977 (by decide +kernel) (by decide +kernel)
                          have c983 : I974 a1 4 = v435 := (g977.cell ta1 (by decide +kernel)).trans c493
                          have c984 : I974 a0 10 = v439 := (g977.cell ta0 (by decide +kernel)).trans c494
                          have c985 : I974 a0 11 = v441 := (g977.cell ta0 (by decide +kernel)).trans c495
                          have c986 : I974 a0 12 = v445 := (g977.cell ta0 (by decide +kernel)).trans c496
                          have c987 : I974 a0 8 = v447 := (g977.cell ta0 (by decide +kernel)).trans c497
                          obtain ⟨v988, c989⟩ : ∃ v, I974 a0 9 = v := ⟨_, rfl⟩
                          have b990 := iv15_9 hS982.1 ta0 c989
                          rw [c989] at p979
                          rw [c987] at p980
                          rw [c497] at p980
                          have hO991 : FrO 14 a1 T I0 I974 := hO498.st g977 (by decide +kernel)
                          have ov992 := w981.over (by rw [c885]; omega)
                          obtain ⟨v993, c994⟩ : ∃ v, I974 a0 9 = v := ⟨_, rfl⟩
                          have b995 := iv15_9 hS982.1 ta0 c994
                          obtain ⟨v996, c997⟩ : ∃ v, I974 a0 13 = v := ⟨_, rfl⟩
                          obtain ⟨v998, c999⟩ : ∃ v, I974 a0 14 = v := ⟨_, rfl⟩
                          (try rw [c994] at ov992)
                          (try rw [c997] at ov992)
                          (try rw [c999] at ov992)
                          (try rw [c885] at ov992)
                          (try rw [c888] at ov992)
                          (try rw [c890] at ov992)
                          refine tr_aload_n dX12_readTurner_203 hl415 ?_
                          refine q_callVv hE (M' := mX12_goesOn) (as := []) dX12_readTurner_204 lk12_142 inX12_goesOn seX12_goesOn myX12_goesOn (by decide) ⟨by decide, by decide⟩ rfl (kR15 hS982.1 ta0) (Nat.le_of_ble_eq_true rfl) rfl rfl (by decide) (by decide) (k_X12_goesOn hS982.1 ta0) ?_
                          rintro cn' K' N' I1000 R1001 L1002 ⟨rfl, rfl, rfl, rfl, g1003, p1005, p1006, p1007, w1008, -⟩
                          have hS1009 := hS982.tr g1003 (by decide +kernel) (by decide +kernel)
                          have c1010 : I1000 a1 4 = v435 := (g1003.cell ta1 (by decide +kernel)).trans c983
                          have c1011 : I1000 a0 13 = v996 := (g1003.cell ta0 (by decide +kernel)).trans c997
                          have c1012 : I1000 a0 14 = v998 := (g1003.cell ta0 (by decide +kernel)).trans c999
                          obtain ⟨v1013, c1014⟩ : ∃ v, I1000 a0 9 = v := ⟨_, rfl⟩
                          have b1015 := iv15_9 hS1009.1 ta0 c1014
                          rw [c994] at p1005
                          rw [c1014] at p1005
                          rw [c994] at p1006
                          rw [c1014] at p1006
                          obtain ⟨v1016, c1017⟩ : ∃ v, I1000 a0 8 = v := ⟨_, rfl⟩
                          have b1018 := iv15_8 hS1009.1 ta0 c1017
                          rw [c1017] at p1007
                          rw [c987] at p1007
                          rw [c1011] at p1007
                          rw [c997] at p1007
                          have hO1019 : FrO 14 a1 T I0 I1000 := hO991.st g1003 (by decide +kernel)
                          have ov1020 := w1008.over (by rw [c994]; omega)
                          obtain ⟨v1021, c1022⟩ : ∃ v, I1000 a0 9 = v := ⟨_, rfl⟩
                          have b1023 := iv15_9 hS1009.1 ta0 c1022
                          obtain ⟨v1024, c1025⟩ : ∃ v, I1000 a0 13 = v := ⟨_, rfl⟩
                          obtain ⟨v1026, c1027⟩ : ∃ v, I1000 a0 14 = v := ⟨_, rfl⟩
                          (try rw [c1022] at ov1020)
                          (try rw [c1025] at ov1020)
                          (try rw [c1027] at ov1020)
                          (try rw [c994] at ov1020)
                          (try rw [c997] at ov1020)
                          (try rw [c999] at ov1020)
                          refine tr_iload dX12_readTurner_207 hl422 ?_
                          refine q_iconst dX12_readTurner_209 (by decide) ?_
                          intro v1028 h1029
                          refine tr_iload dX12_readTurner_210 rfl ?_
                          refine q_ishlE dX12_readTurner_212 (by omega) (by omega) ?_
                          intro v1030 h1031
                          refine q_ior dX12_readTurner_213 ?_
                          intro v1032
                          refine tr_istore dX12_readTurner_214 (by decide) (by decide) ?_
                          refine tr_aload_n dX12_readTurner_216 hl415 ?_
                          refine q_bipush dX12_readTurner_217 (by decide +kernel) ?_
                          intro v1033 h1034
                          refine q_callVi hE (M' := mX12_eatsSign) (as := [_]) dX12_readTurner_219 lk12_221 inX12_eatsSign seX12_eatsSign myX12_eatsSign (by decide) ⟨by decide, by decide⟩ rfl (kR15 hS1009.1 ta0) (Nat.le_of_ble_eq_true rfl) rfl rfl (by decide) (by decide) (k_X12_eatsSign hS1009.1 ta0) ?_
                          rintro v1039 cn' K' N' I1035 R1036 L1037 ⟨rfl, rfl, rfl, rfl, g1038, h1040, p1041, p1042, w1043, -⟩
                          have hS1044 := hS1009.tr g1038 (by decide +kernel) (by decide +kernel)
                          have c1045 : I1035 a1 4 = v435 := (g1038.cell ta1 (by decide +kernel)).trans c1010
                          have c1046 : I1035 a0 13 = v1024 := (g1038.cell ta0 (by decide +kernel)).trans c1025
                          have c1047 : I1035 a0 14 = v1026 := (g1038.cell ta0 (by decide +kernel)).trans c1027
                          rw [c1022] at p1041
                          obtain ⟨v1048, c1049⟩ : ∃ v, I1035 a0 8 = v := ⟨_, rfl⟩
                          have b1050 := iv15_8 hS1044.1 ta0 c1049
                          rw [c1049] at p1042
                          rw [c1017] at p1042
                          have hO1051 : FrO 14 a1 T I0 I1035 := hO1019.st g1038 (by decide +kernel)
                          have ov1052 := w1043.over (by rw [c1022]; omega)
                          obtain ⟨v1053, c1054⟩ : ∃ v, I1035 a0 9 = v := ⟨_, rfl⟩
                          have b1055 := iv15_9 hS1044.1 ta0 c1054
                          obtain ⟨v1056, c1057⟩ : ∃ v, I1035 a0 13 = v := ⟨_, rfl⟩
                          obtain ⟨v1058, c1059⟩ : ∃ v, I1035 a0 14 = v := ⟨_, rfl⟩
                          (try rw [c1054] at ov1052)
                          (try rw [c1057] at ov1052)
                          (try rw [c1059] at ov1052)
                          (try rw [c1022] at ov1052)
                          (try rw [c1025] at ov1052)
                          (try rw [c1027] at ov1052)
                          refine tr_istore dX12_readTurner_222 (by decide) (by decide) ?_
                          refine tr_goto 159 dX12_readTurner_224 (by decide) ?_
                          refine tr_iload dX12_readTurner_159 rfl ?_
                          refine q_if_eq 227 dX12_readTurner_161 (by decide) (fun h1060 => ?_) (fun h1060 => ?_)
                          · skip
                            refine tr_aload_n dX12_readTurner_227 hl415 ?_
                            refine q_getI dX12_readTurner_228 fl12_99 (kR15 hS1044.1 ta0) c1054 ?_
                            refine q_iconst dX12_readTurner_231 (by decide) ?_
                            intro v1061 h1062
                            refine q_icmp_ne 236 dX12_readTurner_232 (by decide) (fun h1063 => ?_) (fun h1063 => ?_)
                            · skip
                              exfalso; omega
                            · skip
                              have u1064 : huF gB gQ 901 0 (tkN gB (tkN gB (tkN gB (tkN gB (tkN gB (tkN gB (tkN gB (tkN gB (tkN gB (tkN gB (tkN gB (tkN gB gs)))))))))))) = v1056.toInt := by rw [← g449]; simp only [huF, ↓reduceIte]; repeat' (first | split | omega)
                              have u1064p : huP gB gQ 901 0 (tkN gB (tkN gB (tkN gB (tkN gB (tkN gB (tkN gB (tkN gB (tkN gB (tkN gB (tkN gB (tkN gB (tkN gB gs)))))))))))) = v1058.toInt := by rw [← g450]; simp only [huP, ↓reduceIte]; repeat' (first | split | omega)
                              have eF := hF.eq
                              have eP := hP.eq
                              obtain ⟨v1065, c1066⟩ : ∃ v, I1035 a0 10 = v := ⟨_, rfl⟩
                              have b1067 := iv15_10 hS1044.1 ta0 c1066
                              obtain ⟨v1068, c1069⟩ : ∃ v, I1035 a0 11 = v := ⟨_, rfl⟩
                              obtain ⟨y1070, c1071⟩ : ∃ v, L1037 a0 15 = v := ⟨_, rfl⟩
                              obtain ⟨v1072, c1073⟩ : ∃ v, I1035 a0 12 = v := ⟨_, rfl⟩
                              exact tr_vret hZ dX12_readTurner_235 rfl (by decide) (by decide) (hq _ _ _ ⟨hS1044, (fun dr hd => (Option.some.inj (d2.symm.trans hd)) ▸ hO1051), (Or.inr (⟨(by (try rw [w76]); first | done | with_reducible assumption | omega), (by (try rw [w76]); (try rw [c1054]); first | done | with_reducible assumption | omega), (by (try rw [w76]); (try rw [c1057]); first | done | with_reducible assumption | omega), (by (try rw [w76]); (try rw [c1059]); first | done | with_reducible assumption | omega), trivial⟩)), trivial⟩)
                          · skip
                            exfalso; omega
                      · skip
                        obtain ⟨v1074, c1075⟩ : ∃ v, I484 a0 9 = v := ⟨_, rfl⟩
                        have b1076 := iv15_9 hS492.1 ta0 c1075
                        rw [c1075] at p519
                        obtain ⟨v1077, c1078⟩ : ∃ v, I484 a0 13 = v := ⟨_, rfl⟩
                        rw [c1078] at p520
                        obtain ⟨v1079, c1080⟩ : ∃ v, I484 a0 14 = v := ⟨_, rfl⟩
                        rw [c1080] at p521
                        refine tr_istore dX12_readTurner_186 (by decide) (by decide) ?_
                        refine tr_iload dX12_readTurner_188 hl422 ?_
                        refine tr_iload dX12_readTurner_190 rfl ?_
                        refine q_callSi hE (M' := mX12_has) (as := [_, _]) dX12_readTurner_192 lk12_329 inX12_has myX12_has ⟨by decide, by decide⟩ rfl (Nat.le_of_ble_eq_true rfl) rfl rfl (by decide) (by decide) (k_X12_has hS492.1 ) ?_
                        rintro v1085 cn' K' N' I1081 R1082 L1083 ⟨rfl, rfl, rfl, rfl, rfl, rfl, h1086, -⟩
                        refine q_if_eq 203 dX12_readTurner_195 (by decide) (fun h1087 => ?_) (fun h1087 => ?_)
                        · skip
                          refine tr_aload_n dX12_readTurner_203 hl415 ?_
                          refine q_callVv hE (M' := mX12_goesOn) (as := []) dX12_readTurner_204 lk12_142 inX12_goesOn seX12_goesOn myX12_goesOn (by decide) ⟨by decide, by decide⟩ rfl (kR15 hS492.1 ta0) (Nat.le_of_ble_eq_true rfl) rfl rfl (by decide) (by decide) (k_X12_goesOn hS492.1 ta0) ?_
                          rintro cn' K' N' I1088 R1089 L1090 ⟨rfl, rfl, rfl, rfl, g1091, p1093, p1094, p1095, w1096, -⟩
                          have hS1097 := hS492.tr g1091 (by decide +kernel) (by decide +kernel)
                          have c1098 : I1088 a1 4 = v435 := (g1091.cell ta1 (by decide +kernel)).trans c493
                          have c1099 : I1088 a0 13 = v1077 := (g1091.cell ta0 (by decide +kernel)).trans c1078
                          have c1100 : I1088 a0 14 = v1079 := (g1091.cell ta0 (by decide +kernel)).trans c1080
                          obtain ⟨v1101, c1102⟩ : ∃ v, I1088 a0 9 = v := ⟨_, rfl⟩
                          have b1103 := iv15_9 hS1097.1 ta0 c1102
                          rw [c1075] at p1093
                          rw [c1102] at p1093
                          rw [c1075] at p1094
                          rw [c1102] at p1094
                          obtain ⟨v1104, c1105⟩ : ∃ v, I1088 a0 8 = v := ⟨_, rfl⟩
                          have b1106 := iv15_8 hS1097.1 ta0 c1105
                          rw [c1105] at p1095
                          rw [c497] at p1095
                          rw [c1099] at p1095
                          rw [c1078] at p1095
                          have hO1107 : FrO 14 a1 T I0 I1088 := hO498.st g1091 (by decide +kernel)
                          have ov1108 := w1096.over (by rw [c1075]; omega)
                          obtain ⟨v1109, c1110⟩ : ∃ v, I1088 a0 9 = v := ⟨_, rfl⟩
                          have b1111 := iv15_9 hS1097.1 ta0 c1110
                          obtain ⟨v1112, c1113⟩ : ∃ v, I1088 a0 13 = v := ⟨_, rfl⟩
                          obtain ⟨v1114, c1115⟩ : ∃ v, I1088 a0 14 = v := ⟨_, rfl⟩
                          (try rw [c1110] at ov1108)
                          (try rw [c1113] at ov1108)
                          (try rw [c1115] at ov1108)
                          (try rw [c1075] at ov1108)
                          (try rw [c1078] at ov1108)
                          (try rw [c1080] at ov1108)
                          refine tr_iload dX12_readTurner_207 hl422 ?_
                          refine q_iconst dX12_readTurner_209 (by decide) ?_
                          intro v1116 h1117
                          refine tr_iload dX12_readTurner_210 rfl ?_
                          refine q_ishlE dX12_readTurner_212 (by omega) (by omega) ?_
                          intro v1118 h1119
                          refine q_ior dX12_readTurner_213 ?_
                          intro v1120
                          refine tr_istore dX12_readTurner_214 (by decide) (by decide) ?_
                          refine tr_aload_n dX12_readTurner_216 hl415 ?_
                          refine q_bipush dX12_readTurner_217 (by decide +kernel) ?_
                          intro v1121 h1122
                          refine q_callVi hE (M' := mX12_eatsSign) (as := [_]) dX12_readTurner_219 lk12_221 inX12_eatsSign seX12_eatsSign myX12_eatsSign (by decide) ⟨by decide, by decide⟩ rfl (kR15 hS1097.1 ta0) (Nat.le_of_ble_eq_true rfl) rfl rfl (by decide) (by decide) (k_X12_eatsSign hS1097.1 ta0) ?_
                          rintro v1127 cn' K' N' I1123 R1124 L1125 ⟨rfl, rfl, rfl, rfl, g1126, h1128, p1129, p1130, w1131, -⟩
                          have hS1132 := hS1097.tr g1126 (by decide +kernel) (by decide +kernel)
                          have c1133 : I1123 a1 4 = v435 := (g1126.cell ta1 (by decide +kernel)).trans c1098
                          have c1134 : I1123 a0 13 = v1112 := (g1126.cell ta0 (by decide +kernel)).trans c1113
                          have c1135 : I1123 a0 14 = v1114 := (g1126.cell ta0 (by decide +kernel)).trans c1115
                          rw [c1110] at p1129
                          obtain ⟨v1136, c1137⟩ : ∃ v, I1123 a0 8 = v := ⟨_, rfl⟩
                          have b1138 := iv15_8 hS1132.1 ta0 c1137
                          rw [c1137] at p1130
                          rw [c1105] at p1130
                          have hO1139 : FrO 14 a1 T I0 I1123 := hO1107.st g1126 (by decide +kernel)
                          have ov1140 := w1131.over (by rw [c1110]; omega)
                          obtain ⟨v1141, c1142⟩ : ∃ v, I1123 a0 9 = v := ⟨_, rfl⟩
                          have b1143 := iv15_9 hS1132.1 ta0 c1142
                          obtain ⟨v1144, c1145⟩ : ∃ v, I1123 a0 13 = v := ⟨_, rfl⟩
                          obtain ⟨v1146, c1147⟩ : ∃ v, I1123 a0 14 = v := ⟨_, rfl⟩
                          (try rw [c1142] at ov1140)
                          (try rw [c1145] at ov1140)
                          (try rw [c1147] at ov1140)
                          (try rw [c1110] at ov1140)
                          (try rw [c1113] at ov1140)
                          (try rw [c1115] at ov1140)
                          refine tr_istore dX12_readTurner_222 (by decide) (by decide) ?_
                          refine tr_goto 159 dX12_readTurner_224 (by decide) ?_
                          refine tr_iload dX12_readTurner_159 rfl ?_
                          refine q_if_eq 227 dX12_readTurner_161 (by decide) (fun h1148 => ?_) (fun h1148 => ?_)
                          · skip
                            refine tr_aload_n dX12_readTurner_227 hl415 ?_
                            refine q_getI dX12_readTurner_228 fl12_99 (kR15 hS1132.1 ta0) c1142 ?_
                            refine q_iconst dX12_readTurner_231 (by decide) ?_
                            intro v1149 h1150
                            refine q_icmp_ne 236 dX12_readTurner_232 (by decide) (fun h1151 => ?_) (fun h1151 => ?_)
                            · skip
                              exfalso; omega
                            · skip
                              have u1152 : huF gB gQ 901 0 (tkN gB (tkN gB (tkN gB (tkN gB (tkN gB (tkN gB (tkN gB (tkN gB (tkN gB (tkN gB (tkN gB (tkN gB gs)))))))))))) = v1144.toInt := by rw [← g449]; simp only [huF, ↓reduceIte]; repeat' (first | split | omega)
                              have u1152p : huP gB gQ 901 0 (tkN gB (tkN gB (tkN gB (tkN gB (tkN gB (tkN gB (tkN gB (tkN gB (tkN gB (tkN gB (tkN gB (tkN gB gs)))))))))))) = v1146.toInt := by rw [← g450]; simp only [huP, ↓reduceIte]; repeat' (first | split | omega)
                              have eF := hF.eq
                              have eP := hP.eq
                              obtain ⟨v1153, c1154⟩ : ∃ v, I1123 a0 10 = v := ⟨_, rfl⟩
                              have b1155 := iv15_10 hS1132.1 ta0 c1154
                              obtain ⟨v1156, c1157⟩ : ∃ v, I1123 a0 11 = v := ⟨_, rfl⟩
                              obtain ⟨y1158, c1159⟩ : ∃ v, L1125 a0 15 = v := ⟨_, rfl⟩
                              obtain ⟨v1160, c1161⟩ : ∃ v, I1123 a0 12 = v := ⟨_, rfl⟩
                              exact tr_vret hZ dX12_readTurner_235 rfl (by decide) (by decide) (hq _ _ _ ⟨hS1132, (fun dr hd => (Option.some.inj (d2.symm.trans hd)) ▸ hO1139), (Or.inr (⟨(by (try rw [w76]); first | done | with_reducible assumption | omega), (by (try rw [w76]); (try rw [c1142]); first | done | with_reducible assumption | omega), (by (try rw [w76]); (try rw [c1145]); first | done | with_reducible assumption | omega), (by (try rw [w76]); (try rw [c1147]); first | done | with_reducible assumption | omega), trivial⟩)), trivial⟩)
                          · skip
                            exfalso; omega
                        · skip
                          refine tr_aload_n dX12_readTurner_198 hl415 ?_
                          refine q_iconst dX12_readTurner_199 (by decide) ?_
                          intro v1162 h1163
                          refine q_callVv hE (M' := mX12_flaw) (as := [_]) dX12_readTurner_200 lk12_145 inX12_flaw seX12_flaw myX12_flaw (by decide) ⟨by decide, by decide⟩ rfl (kR15 hS492.1 ta0) (Nat.le_of_ble_eq_true rfl) rfl rfl (by decide) (by decide) (k_X12_flaw hS492.1 ta0 (by omega)) ?_
                          rintro cn' K' N' I1164 R1165 L1166 ⟨rfl, rfl, rfl, rfl, rfl, g1167, p1169, p1170, w1171, -⟩
                          have hS1172 := hS492.tr g1167 (by decide +kernel) (by decide +kernel)
                          have c1173 : I1164 a1 4 = v435 := (g1167.cell ta1 (by decide +kernel)).trans c493
                          have c1174 : I1164 a0 10 = v439 := (g1167.cell ta0 (by decide +kernel)).trans c494
                          have c1175 : I1164 a0 11 = v441 := (g1167.cell ta0 (by decide +kernel)).trans c495
                          have c1176 : I1164 a0 12 = v445 := (g1167.cell ta0 (by decide +kernel)).trans c496
                          have c1177 : I1164 a0 8 = v447 := (g1167.cell ta0 (by decide +kernel)).trans c497
                          obtain ⟨v1178, c1179⟩ : ∃ v, I1164 a0 9 = v := ⟨_, rfl⟩
                          have b1180 := iv15_9 hS1172.1 ta0 c1179
                          rw [c1179] at p1169
                          rw [c1177] at p1170
                          rw [c497] at p1170
                          have hO1181 : FrO 14 a1 T I0 I1164 := hO498.st g1167 (by decide +kernel)
                          have ov1182 := w1171.over (by rw [c1075]; omega)
                          obtain ⟨v1183, c1184⟩ : ∃ v, I1164 a0 9 = v := ⟨_, rfl⟩
                          have b1185 := iv15_9 hS1172.1 ta0 c1184
                          obtain ⟨v1186, c1187⟩ : ∃ v, I1164 a0 13 = v := ⟨_, rfl⟩
                          obtain ⟨v1188, c1189⟩ : ∃ v, I1164 a0 14 = v := ⟨_, rfl⟩
                          (try rw [c1184] at ov1182)
                          (try rw [c1187] at ov1182)
                          (try rw [c1189] at ov1182)
                          (try rw [c1075] at ov1182)
                          (try rw [c1078] at ov1182)
                          (try rw [c1080] at ov1182)
                          refine tr_aload_n dX12_readTurner_203 hl415 ?_
                          refine q_callVv hE (M' := mX12_goesOn) (as := []) dX12_readTurner_204 lk12_142 inX12_goesOn seX12_goesOn myX12_goesOn (by decide) ⟨by decide, by decide⟩ rfl (kR15 hS1172.1 ta0) (Nat.le_of_ble_eq_true rfl) rfl rfl (by decide) (by decide) (k_X12_goesOn hS1172.1 ta0) ?_
                          rintro cn' K' N' I1190 R1191 L1192 ⟨rfl, rfl, rfl, rfl, g1193, p1195, p1196, p1197, w1198, -⟩
                          have hS1199 := hS1172.tr g1193 (by decide +kernel) (by decide +kernel)
                          have c1200 : I1190 a1 4 = v435 := (g1193.cell ta1 (by decide +kernel)).trans c1173
                          have c1201 : I1190 a0 13 = v1186 := (g1193.cell ta0 (by decide +kernel)).trans c1187
                          have c1202 : I1190 a0 14 = v1188 := (g1193.cell ta0 (by decide +kernel)).trans c1189
                          obtain ⟨v1203, c1204⟩ : ∃ v, I1190 a0 9 = v := ⟨_, rfl⟩
                          have b1205 := iv15_9 hS1199.1 ta0 c1204
                          rw [c1184] at p1195
                          rw [c1204] at p1195
                          rw [c1184] at p1196
                          rw [c1204] at p1196
                          obtain ⟨v1206, c1207⟩ : ∃ v, I1190 a0 8 = v := ⟨_, rfl⟩
                          have b1208 := iv15_8 hS1199.1 ta0 c1207
                          rw [c1207] at p1197
                          rw [c1177] at p1197
                          rw [c1201] at p1197
                          rw [c1187] at p1197
                          have hO1209 : FrO 14 a1 T I0 I1190 := hO1181.st g1193 (by decide +kernel)
                          have ov1210 := w1198.over (by rw [c1184]; omega)
                          obtain ⟨v1211, c1212⟩ : ∃ v, I1190 a0 9 = v := ⟨_, rfl⟩
                          have b1213 := iv15_9 hS1199.1 ta0 c1212
                          obtain ⟨v1214, c1215⟩ : ∃ v, I1190 a0 13 = v := ⟨_, rfl⟩
                          obtain ⟨v1216, c1217⟩ : ∃ v, I1190 a0 14 = v := ⟨_, rfl⟩
                          (try rw [c1212] at ov1210)
                          (try rw [c1215] at ov1210)
                          (try rw [c1217] at ov1210)
                          (try rw [c1184] at ov1210)
                          (try rw [c1187] at ov1210)
                          (try rw [c1189] at ov1210)
                          refine tr_iload dX12_readTurner_207 hl422 ?_
                          refine q_iconst dX12_readTurner_209 (by decide) ?_
                          intro v1218 h1219
                          refine tr_iload dX12_readTurner_210 rfl ?_
                          refine q_ishlE dX12_readTurner_212 (by omega) (by omega) ?_
                          intro v1220 h1221
                          refine q_ior dX12_readTurner_213 ?_
                          intro v1222
                          refine tr_istore dX12_readTurner_214 (by decide) (by decide) ?_
                          refine tr_aload_n dX12_readTurner_216 hl415 ?_
                          refine q_bipush dX12_readTurner_217 (by decide +kernel) ?_
                          intro v1223 h1224
                          refine q_callVi hE (M' := mX12_eatsSign) (as := [_]) dX12_readTurner_219 lk12_221 inX12_eatsSign seX12_eatsSign myX12_eatsSign (by decide) ⟨by decide, by decide⟩ rfl (kR15 hS1199.1 ta0) (Nat.le_of_ble_eq_true rfl) rfl rfl (by decide) (by decide) (k_X12_eatsSign hS1199.1 ta0) ?_
                          rintro v1229 cn' K' N' I1225 R1226 L1227 ⟨rfl, rfl, rfl, rfl, g1228, h1230, p1231, p1232, w1233, -⟩
                          have hS1234 := hS1199.tr g1228 (by decide +kernel) (by decide +kernel)
                          have c1235 : I1225 a1 4 = v435 := (g1228.cell ta1 (by decide +kernel)).trans c1200
                          have c1236 : I1225 a0 13 = v1214 := (g1228.cell ta0 (by decide +kernel)).trans c1215
                          have c1237 : I1225 a0 14 = v1216 := (g1228.cell ta0 (by decide +kernel)).trans c1217
                          rw [c1212] at p1231
                          obtain ⟨v1238, c1239⟩ : ∃ v, I1225 a0 8 = v := ⟨_, rfl⟩
                          have b1240 := iv15_8 hS1234.1 ta0 c1239
                          rw [c1239] at p1232
                          rw [c1207] at p1232
                          have hO1241 : FrO 14 a1 T I0 I1225 := hO1209.st g1228 (by decide +kernel)
                          have ov1242 := w1233.over (by rw [c1212]; omega)
                          obtain ⟨v1243, c1244⟩ : ∃ v, I1225 a0 9 = v := ⟨_, rfl⟩
                          have b1245 := iv15_9 hS1234.1 ta0 c1244
                          obtain ⟨v1246, c1247⟩ : ∃ v, I1225 a0 13 = v := ⟨_, rfl⟩
                          obtain ⟨v1248, c1249⟩ : ∃ v, I1225 a0 14 = v := ⟨_, rfl⟩
                          (try rw [c1244] at ov1242)
                          (try rw [c1247] at ov1242)
                          (try rw [c1249] at ov1242)
                          (try rw [c1212] at ov1242)
                          (try rw [c1215] at ov1242)
                          (try rw [c1217] at ov1242)
                          refine tr_istore dX12_readTurner_222 (by decide) (by decide) ?_
                          refine tr_goto 159 dX12_readTurner_224 (by decide) ?_
                          refine tr_iload dX12_readTurner_159 rfl ?_
                          refine q_if_eq 227 dX12_readTurner_161 (by decide) (fun h1250 => ?_) (fun h1250 => ?_)
                          · skip
                            refine tr_aload_n dX12_readTurner_227 hl415 ?_
                            refine q_getI dX12_readTurner_228 fl12_99 (kR15 hS1234.1 ta0) c1244 ?_
                            refine q_iconst dX12_readTurner_231 (by decide) ?_
                            intro v1251 h1252
                            refine q_icmp_ne 236 dX12_readTurner_232 (by decide) (fun h1253 => ?_) (fun h1253 => ?_)
                            · skip
                              exfalso; omega
                            · skip
                              have u1254 : huF gB gQ 901 0 (tkN gB (tkN gB (tkN gB (tkN gB (tkN gB (tkN gB (tkN gB (tkN gB (tkN gB (tkN gB (tkN gB (tkN gB gs)))))))))))) = v1246.toInt := by rw [← g449]; simp only [huF, ↓reduceIte]; repeat' (first | split | omega)
                              have u1254p : huP gB gQ 901 0 (tkN gB (tkN gB (tkN gB (tkN gB (tkN gB (tkN gB (tkN gB (tkN gB (tkN gB (tkN gB (tkN gB (tkN gB gs)))))))))))) = v1248.toInt := by rw [← g450]; simp only [huP, ↓reduceIte]; repeat' (first | split | omega)
                              have eF := hF.eq
                              have eP := hP.eq
                              obtain ⟨v1255, c1256⟩ : ∃ v, I1225 a0 10 = v := ⟨_, rfl⟩
                              have b1257 := iv15_10 hS1234.1 ta0 c1256
                              obtain ⟨v1258, c1259⟩ : ∃ v, I1225 a0 11 = v := ⟨_, rfl⟩
                              obtain ⟨y1260, c1261⟩ : ∃ v, L1227 a0 15 = v := ⟨_, rfl⟩
                              obtain ⟨v1262, c1263⟩ : ∃ v, I1225 a0 12 = v := ⟨_, rfl⟩
                              exact tr_vret hZ dX12_readTurner_235 rfl (by decide) (by decide) (hq _ _ _ ⟨hS1234, (fun dr hd => (Option.some.inj (d2.symm.trans hd)) ▸ hO1241), (Or.inr (⟨(by (try rw [w76]); first | done | with_reducible assumption | omega), (by (try rw [w76]); (try rw [c1244]); first | done | with_reducible assumption | omega), (by (try rw [w76]); (try rw [c1247]); first | done | with_reducible assumption | omega), (by (try rw [w76]); (try rw [c1249]); first | done | with_reducible assumption | omega), trivial⟩)), trivial⟩)
                          · skip
                            exfalso; omega
            exact lp466 _ _ v409 v411 I364 L366 ((tkN gB (tkN gB (tkN gB (tkN gB (tkN gB (tkN gB (tkN gB (tkN gB (tkN gB (tkN gB (tkN gB (tkN gB gs))))))))))))) (901) (0) v392 v45 v394 v397 v400 y402 v404 v406 hl0 hl1 hl3 rfl rfl rfl rfl rfl rfl hS372 hL390 hM391 hO374 c393 c373 c395 c398 c401 c403 c405 c407 (by first | rfl | (congr 1; omega) | (congr 2 <;> omega)) (by first | rfl | (congr 1; omega) | (congr 2 <;> omega)) (by first | rfl | (congr 1; omega) | (congr 2 <;> omega)) (by omega) (by omega) (by omega) (by omega) (by omega) (by omega) (by omega) (by omega) (by omega) (by omega) (by omega) (by assumption) (by assumption) (by assumption) (Nat.lt_succ_self _)
          · skip
            obtain ⟨v1264, c1265⟩ : ∃ v, I364 a0 9 = v := ⟨_, rfl⟩
            have b1266 := iv15_9 hS372.1 ta0 c1265
            rw [c1265] at p387
            obtain ⟨v1267, c1268⟩ : ∃ v, I364 a0 13 = v := ⟨_, rfl⟩
            rw [c1268] at p388
            obtain ⟨v1269, c1270⟩ : ∃ v, I364 a0 14 = v := ⟨_, rfl⟩
            rw [c1270] at p389
            replace hF := hF.pos (by omega)
            replace hP := hP.pos (by omega)
            refine q_iconst dX12_readTurner_153 (by decide) ?_
            intro v1271 h1272
            refine tr_istore dX12_readTurner_154 (by decide) (by decide) ?_
            refine q_iconst dX12_readTurner_156 (by decide) ?_
            intro v1273 h1274
            refine tr_istore dX12_readTurner_157 (by decide) (by decide) ?_
            refine tr_iload dX12_readTurner_159 rfl ?_
            refine q_if_eq 227 dX12_readTurner_161 (by decide) (fun h1275 => ?_) (fun h1275 => ?_)
            · skip
              exfalso; omega
            · skip
              refine tr_aload_n dX12_readTurner_164 hl0 ?_
              refine q_getI dX12_readTurner_165 fl12_99 (kR15 hS372.1 ta0) c1265 ?_
              refine q_iconst dX12_readTurner_168 (by decide) ?_
              intro v1276 h1277
              refine q_icmp_eq 227 dX12_readTurner_169 (by decide) (fun h1278 => ?_) (fun h1278 => ?_)
              · skip
                refine tr_aload_n dX12_readTurner_227 hl0 ?_
                refine q_getI dX12_readTurner_228 fl12_99 (kR15 hS372.1 ta0) c1265 ?_
                refine q_iconst dX12_readTurner_231 (by decide) ?_
                intro v1279 h1280
                refine q_icmp_ne 236 dX12_readTurner_232 (by decide) (fun h1281 => ?_) (fun h1281 => ?_)
                · skip
                  exfalso; omega
                · skip
                  have eF := hF.eq
                  have eP := hP.eq
                  obtain ⟨v1282, c1283⟩ : ∃ v, I364 a0 10 = v := ⟨_, rfl⟩
                  have b1284 := iv15_10 hS372.1 ta0 c1283
                  obtain ⟨v1285, c1286⟩ : ∃ v, I364 a0 11 = v := ⟨_, rfl⟩
                  obtain ⟨y1287, c1288⟩ : ∃ v, L366 a0 15 = v := ⟨_, rfl⟩
                  obtain ⟨v1289, c1290⟩ : ∃ v, I364 a0 12 = v := ⟨_, rfl⟩
                  obtain ⟨v1291, c1292⟩ : ∃ v, I364 a0 8 = v := ⟨_, rfl⟩
                  have b1293 := iv15_8 hS372.1 ta0 c1292
                  exact tr_vret hZ dX12_readTurner_235 rfl (by decide) (by decide) (hq _ _ _ ⟨hS372, (fun dr hd => (Option.some.inj (d2.symm.trans hd)) ▸ hO374), (Or.inr (⟨(by (try rw [w76]); first | done | with_reducible assumption | omega), (by (try rw [w76]); (try rw [c1265]); first | done | with_reducible assumption | omega), (by (try rw [w76]); (try rw [c1268]); first | done | with_reducible assumption | omega), (by (try rw [w76]); (try rw [c1270]); first | done | with_reducible assumption | omega), trivial⟩)), trivial⟩)
              · skip
                exfalso; omega
        · skip
          obtain ⟨v1294, c1295⟩ : ∃ v, I299 a0 9 = v := ⟨_, rfl⟩
          have b1296 := iv15_9 hS307.1 ta0 c1295
          rw [c1295] at p327
          obtain ⟨v1297, c1298⟩ : ∃ v, I299 a0 13 = v := ⟨_, rfl⟩
          rw [c1298] at p328
          obtain ⟨v1299, c1300⟩ : ∃ v, I299 a0 14 = v := ⟨_, rfl⟩
          rw [c1300] at p329
          replace hF := hF.pos (by omega)
          replace hP := hP.pos (by omega)
          refine tr_istore dX12_readTurner_145 (by decide) (by decide) ?_
          refine tr_aload_n dX12_readTurner_147 hl0 ?_
          refine tr_ldcS dX12_readTurner_148 ld12_253 ?_
          refine q_callVv hE (M' := mX12_needs) (as := [_]) dX12_readTurner_150 lk12_157 inX12_needs seX12_needs myX12_needs (by decide) ⟨by decide, by decide⟩ rfl (kR15 hS307.1 ta0) (Nat.le_of_ble_eq_true rfl) rfl rfl (by decide) (by decide) (k_X12_needs hS307.1 ta0 (by decide)) ?_
          rintro cn' K' N' I1301 R1302 L1303 ⟨rfl, rfl, rfl, rfl, g1304, w1306, -⟩
          have hS1307 := hS307.tr g1304 (by decide +kernel) (by decide +kernel)
          have c1308 : I1301 a1 4 = v45 := (g1304.cell ta1 (by decide +kernel)).trans c308
          have hO1309 : FrO 14 a1 T I0 I1301 := hO309.st g1304 (by decide +kernel)
          have ov1310 := w1306.over (by rw [c1295]; omega)
          obtain ⟨v1311, c1312⟩ : ∃ v, I1301 a0 9 = v := ⟨_, rfl⟩
          have b1313 := iv15_9 hS1307.1 ta0 c1312
          obtain ⟨v1314, c1315⟩ : ∃ v, I1301 a0 13 = v := ⟨_, rfl⟩
          obtain ⟨v1316, c1317⟩ : ∃ v, I1301 a0 14 = v := ⟨_, rfl⟩
          (try rw [c1312] at ov1310)
          (try rw [c1315] at ov1310)
          (try rw [c1317] at ov1310)
          (try rw [c1295] at ov1310)
          (try rw [c1298] at ov1310)
          (try rw [c1300] at ov1310)
          refine q_iconst dX12_readTurner_153 (by decide) ?_
          intro v1318 h1319
          refine tr_istore dX12_readTurner_154 (by decide) (by decide) ?_
          refine q_iconst dX12_readTurner_156 (by decide) ?_
          intro v1320 h1321
          refine tr_istore dX12_readTurner_157 (by decide) (by decide) ?_
          refine tr_iload dX12_readTurner_159 rfl ?_
          refine q_if_eq 227 dX12_readTurner_161 (by decide) (fun h1322 => ?_) (fun h1322 => ?_)
          · skip
            exfalso; omega
          · skip
            refine tr_aload_n dX12_readTurner_164 hl0 ?_
            refine q_getI dX12_readTurner_165 fl12_99 (kR15 hS1307.1 ta0) c1312 ?_
            refine q_iconst dX12_readTurner_168 (by decide) ?_
            intro v1323 h1324
            refine q_icmp_eq 227 dX12_readTurner_169 (by decide) (fun h1325 => ?_) (fun h1325 => ?_)
            · skip
              refine tr_aload_n dX12_readTurner_227 hl0 ?_
              refine q_getI dX12_readTurner_228 fl12_99 (kR15 hS1307.1 ta0) c1312 ?_
              refine q_iconst dX12_readTurner_231 (by decide) ?_
              intro v1326 h1327
              refine q_icmp_ne 236 dX12_readTurner_232 (by decide) (fun h1328 => ?_) (fun h1328 => ?_)
              · skip
                exfalso; omega
              · skip
                have eF := hF.eq
                have eP := hP.eq
                obtain ⟨v1329, c1330⟩ : ∃ v, I1301 a0 10 = v := ⟨_, rfl⟩
                have b1331 := iv15_10 hS1307.1 ta0 c1330
                obtain ⟨v1332, c1333⟩ : ∃ v, I1301 a0 11 = v := ⟨_, rfl⟩
                obtain ⟨y1334, c1335⟩ : ∃ v, L1303 a0 15 = v := ⟨_, rfl⟩
                obtain ⟨v1336, c1337⟩ : ∃ v, I1301 a0 12 = v := ⟨_, rfl⟩
                obtain ⟨v1338, c1339⟩ : ∃ v, I1301 a0 8 = v := ⟨_, rfl⟩
                have b1340 := iv15_8 hS1307.1 ta0 c1339
                exact tr_vret hZ dX12_readTurner_235 rfl (by decide) (by decide) (hq _ _ _ ⟨hS1307, (fun dr hd => (Option.some.inj (d2.symm.trans hd)) ▸ hO1309), (Or.inr (⟨(by (try rw [w76]); first | done | with_reducible assumption | omega), (by (try rw [w76]); (try rw [c1312]); first | done | with_reducible assumption | omega), (by (try rw [w76]); (try rw [c1315]); first | done | with_reducible assumption | omega), (by (try rw [w76]); (try rw [c1317]); first | done | with_reducible assumption | omega), trivial⟩)), trivial⟩)
            · skip
              exfalso; omega
        · skip
          obtain ⟨v1341, c1342⟩ : ∃ v, I299 a0 9 = v := ⟨_, rfl⟩
          have b1343 := iv15_9 hS307.1 ta0 c1342
          rw [c1342] at p334
          obtain ⟨v1344, c1345⟩ : ∃ v, I299 a0 13 = v := ⟨_, rfl⟩
          rw [c1345] at p335
          obtain ⟨v1346, c1347⟩ : ∃ v, I299 a0 14 = v := ⟨_, rfl⟩
          rw [c1347] at p336
          replace hF := hF.neg (by omega)
          replace hP := hP.neg (by omega)
          replace hF := hF.pos (by omega)
          replace hP := hP.pos (by omega)
          refine tr_istore dX12_readTurner_145 (by decide) (by decide) ?_
          refine tr_aload_n dX12_readTurner_147 hl0 ?_
          refine tr_ldcS dX12_readTurner_148 ld12_253 ?_
          refine q_callVv hE (M' := mX12_needs) (as := [_]) dX12_readTurner_150 lk12_157 inX12_needs seX12_needs myX12_needs (by decide) ⟨by decide, by decide⟩ rfl (kR15 hS307.1 ta0) (Nat.le_of_ble_eq_true rfl) rfl rfl (by decide) (by decide) (k_X12_needs hS307.1 ta0 (by decide)) ?_
          rintro cn' K' N' I1348 R1349 L1350 ⟨rfl, rfl, rfl, rfl, g1351, w1353, -⟩
          have hS1354 := hS307.tr g1351 (by decide +kernel) (by decide +kernel)
          have c1355 : I1348 a1 4 = v45 := (g1351.cell ta1 (by decide +kernel)).trans c308
          have hO1356 : FrO 14 a1 T I0 I1348 := hO309.st g1351 (by decide +kernel)
          have ov1357 := w1353.over (by rw [c1342]; omega)
          obtain ⟨v1358, c1359⟩ : ∃ v, I1348 a0 9 = v := ⟨_, rfl⟩
          have b1360 := iv15_9 hS1354.1 ta0 c1359
          obtain ⟨v1361, c1362⟩ : ∃ v, I1348 a0 13 = v := ⟨_, rfl⟩
          obtain ⟨v1363, c1364⟩ : ∃ v, I1348 a0 14 = v := ⟨_, rfl⟩
          (try rw [c1359] at ov1357)
          (try rw [c1362] at ov1357)
          (try rw [c1364] at ov1357)
          (try rw [c1342] at ov1357)
          (try rw [c1345] at ov1357)
          (try rw [c1347] at ov1357)
          refine q_iconst dX12_readTurner_153 (by decide) ?_
          intro v1365 h1366
          refine tr_istore dX12_readTurner_154 (by decide) (by decide) ?_
          refine q_iconst dX12_readTurner_156 (by decide) ?_
          intro v1367 h1368
          refine tr_istore dX12_readTurner_157 (by decide) (by decide) ?_
          refine tr_iload dX12_readTurner_159 rfl ?_
          refine q_if_eq 227 dX12_readTurner_161 (by decide) (fun h1369 => ?_) (fun h1369 => ?_)
          · skip
            exfalso; omega
          · skip
            refine tr_aload_n dX12_readTurner_164 hl0 ?_
            refine q_getI dX12_readTurner_165 fl12_99 (kR15 hS1354.1 ta0) c1359 ?_
            refine q_iconst dX12_readTurner_168 (by decide) ?_
            intro v1370 h1371
            refine q_icmp_eq 227 dX12_readTurner_169 (by decide) (fun h1372 => ?_) (fun h1372 => ?_)
            · skip
              refine tr_aload_n dX12_readTurner_227 hl0 ?_
              refine q_getI dX12_readTurner_228 fl12_99 (kR15 hS1354.1 ta0) c1359 ?_
              refine q_iconst dX12_readTurner_231 (by decide) ?_
              intro v1373 h1374
              refine q_icmp_ne 236 dX12_readTurner_232 (by decide) (fun h1375 => ?_) (fun h1375 => ?_)
              · skip
                exfalso; omega
              · skip
                have eF := hF.eq
                have eP := hP.eq
                obtain ⟨v1376, c1377⟩ : ∃ v, I1348 a0 10 = v := ⟨_, rfl⟩
                have b1378 := iv15_10 hS1354.1 ta0 c1377
                obtain ⟨v1379, c1380⟩ : ∃ v, I1348 a0 11 = v := ⟨_, rfl⟩
                obtain ⟨y1381, c1382⟩ : ∃ v, L1350 a0 15 = v := ⟨_, rfl⟩
                obtain ⟨v1383, c1384⟩ : ∃ v, I1348 a0 12 = v := ⟨_, rfl⟩
                obtain ⟨v1385, c1386⟩ : ∃ v, I1348 a0 8 = v := ⟨_, rfl⟩
                have b1387 := iv15_8 hS1354.1 ta0 c1386
                exact tr_vret hZ dX12_readTurner_235 rfl (by decide) (by decide) (hq _ _ _ ⟨hS1354, (fun dr hd => (Option.some.inj (d2.symm.trans hd)) ▸ hO1356), (Or.inr (⟨(by (try rw [w76]); first | done | with_reducible assumption | omega), (by (try rw [w76]); (try rw [c1359]); first | done | with_reducible assumption | omega), (by (try rw [w76]); (try rw [c1362]); first | done | with_reducible assumption | omega), (by (try rw [w76]); (try rw [c1364]); first | done | with_reducible assumption | omega), trivial⟩)), trivial⟩)
            · skip
              exfalso; omega
        · skip
          obtain ⟨v1388, c1389⟩ : ∃ v, I299 a0 9 = v := ⟨_, rfl⟩
          have b1390 := iv15_9 hS307.1 ta0 c1389
          rw [c1389] at p342
          obtain ⟨v1391, c1392⟩ : ∃ v, I299 a0 13 = v := ⟨_, rfl⟩
          rw [c1392] at p343
          obtain ⟨v1393, c1394⟩ : ∃ v, I299 a0 14 = v := ⟨_, rfl⟩
          rw [c1394] at p344
          replace hF := hF.neg (by omega)
          replace hP := hP.neg (by omega)
          replace hF := hF.neg (by omega)
          replace hP := hP.neg (by omega)
          replace hF := hF.pos (by omega)
          replace hP := hP.pos (by omega)
          refine tr_istore dX12_readTurner_145 (by decide) (by decide) ?_
          refine tr_aload_n dX12_readTurner_147 hl0 ?_
          refine tr_ldcS dX12_readTurner_148 ld12_253 ?_
          refine q_callVv hE (M' := mX12_needs) (as := [_]) dX12_readTurner_150 lk12_157 inX12_needs seX12_needs myX12_needs (by decide) ⟨by decide, by decide⟩ rfl (kR15 hS307.1 ta0) (Nat.le_of_ble_eq_true rfl) rfl rfl (by decide) (by decide) (k_X12_needs hS307.1 ta0 (by decide)) ?_
          rintro cn' K' N' I1395 R1396 L1397 ⟨rfl, rfl, rfl, rfl, g1398, w1400, -⟩
          have hS1401 := hS307.tr g1398 (by decide +kernel) (by decide +kernel)
          have c1402 : I1395 a1 4 = v45 := (g1398.cell ta1 (by decide +kernel)).trans c308
          have hO1403 : FrO 14 a1 T I0 I1395 := hO309.st g1398 (by decide +kernel)
          have ov1404 := w1400.over (by rw [c1389]; omega)
          obtain ⟨v1405, c1406⟩ : ∃ v, I1395 a0 9 = v := ⟨_, rfl⟩
          have b1407 := iv15_9 hS1401.1 ta0 c1406
          obtain ⟨v1408, c1409⟩ : ∃ v, I1395 a0 13 = v := ⟨_, rfl⟩
          obtain ⟨v1410, c1411⟩ : ∃ v, I1395 a0 14 = v := ⟨_, rfl⟩
          (try rw [c1406] at ov1404)
          (try rw [c1409] at ov1404)
          (try rw [c1411] at ov1404)
          (try rw [c1389] at ov1404)
          (try rw [c1392] at ov1404)
          (try rw [c1394] at ov1404)
          refine q_iconst dX12_readTurner_153 (by decide) ?_
          intro v1412 h1413
          refine tr_istore dX12_readTurner_154 (by decide) (by decide) ?_
          refine q_iconst dX12_readTurner_156 (by decide) ?_
          intro v1414 h1415
          refine tr_istore dX12_readTurner_157 (by decide) (by decide) ?_
          refine tr_iload dX12_readTurner_159 rfl ?_
          refine q_if_eq 227 dX12_readTurner_161 (by decide) (fun h1416 => ?_) (fun h1416 => ?_)
          · skip
            exfalso; omega
          · skip
            refine tr_aload_n dX12_readTurner_164 hl0 ?_
            refine q_getI dX12_readTurner_165 fl12_99 (kR15 hS1401.1 ta0) c1406 ?_
            refine q_iconst dX12_readTurner_168 (by decide) ?_
            intro v1417 h1418
            refine q_icmp_eq 227 dX12_readTurner_169 (by decide) (fun h1419 => ?_) (fun h1419 => ?_)
            · skip
              refine tr_aload_n dX12_readTurner_227 hl0 ?_
              refine q_getI dX12_readTurner_228 fl12_99 (kR15 hS1401.1 ta0) c1406 ?_
              refine q_iconst dX12_readTurner_231 (by decide) ?_
              intro v1420 h1421
              refine q_icmp_ne 236 dX12_readTurner_232 (by decide) (fun h1422 => ?_) (fun h1422 => ?_)
              · skip
                exfalso; omega
              · skip
                have eF := hF.eq
                have eP := hP.eq
                obtain ⟨v1423, c1424⟩ : ∃ v, I1395 a0 10 = v := ⟨_, rfl⟩
                have b1425 := iv15_10 hS1401.1 ta0 c1424
                obtain ⟨v1426, c1427⟩ : ∃ v, I1395 a0 11 = v := ⟨_, rfl⟩
                obtain ⟨y1428, c1429⟩ : ∃ v, L1397 a0 15 = v := ⟨_, rfl⟩
                obtain ⟨v1430, c1431⟩ : ∃ v, I1395 a0 12 = v := ⟨_, rfl⟩
                obtain ⟨v1432, c1433⟩ : ∃ v, I1395 a0 8 = v := ⟨_, rfl⟩
                have b1434 := iv15_8 hS1401.1 ta0 c1433
                exact tr_vret hZ dX12_readTurner_235 rfl (by decide) (by decide) (hq _ _ _ ⟨hS1401, (fun dr hd => (Option.some.inj (d2.symm.trans hd)) ▸ hO1403), (Or.inr (⟨(by (try rw [w76]); first | done | with_reducible assumption | omega), (by (try rw [w76]); (try rw [c1406]); first | done | with_reducible assumption | omega), (by (try rw [w76]); (try rw [c1409]); first | done | with_reducible assumption | omega), (by (try rw [w76]); (try rw [c1411]); first | done | with_reducible assumption | omega), trivial⟩)), trivial⟩)
            · skip
              exfalso; omega
      · skip
        obtain ⟨v1435, c1436⟩ : ∃ v, I230 a0 9 = v := ⟨_, rfl⟩
        have b1437 := iv15_9 hS238.1 ta0 c1436
        rw [c1436] at p258
        obtain ⟨v1438, c1439⟩ : ∃ v, I230 a0 13 = v := ⟨_, rfl⟩
        rw [c1439] at p259
        obtain ⟨v1440, c1441⟩ : ∃ v, I230 a0 14 = v := ⟨_, rfl⟩
        rw [c1441] at p260
        replace hF := hF.pos (by omega)
        replace hP := hP.pos (by omega)
        refine tr_istore dX12_readTurner_133 (by decide) (by decide) ?_
        refine tr_aload_n dX12_readTurner_135 hl0 ?_
        refine tr_ldcwS dX12_readTurner_136 ld12_327 ?_
        refine q_iconst dX12_readTurner_139 (by decide) ?_
        intro v1442 h1443
        refine q_bipush dX12_readTurner_140 (by decide +kernel) ?_
        intro v1444 h1445
        refine q_callVi hE (M' := mX12_readPart) (as := [_, _, _]) dX12_readTurner_142 lk12_249 inX12_readPart seX12_readPart myX12_readPart (by decide) ⟨by decide, by decide⟩ rfl (kR15 hS238.1 ta0) (Nat.le_of_ble_eq_true rfl) rfl rfl (by decide) (by decide) (k_X12_readPart hS238.1 ta0 (by decide)) ?_
        rintro v1450 cn' K' N' I1446 R1447 L1448 ⟨rfl, rfl, rfl, rfl, g1449, p1451, w1452, -⟩
        have hS1453 := hS238.tr g1449 (by decide +kernel) (by decide +kernel)
        have c1454 : I1446 a1 4 = v45 := (g1449.cell ta1 (by decide +kernel)).trans c239
        have b1455 : 1 ≤ v1450.toInt ∧ v1450.toInt ≤ 20 := by omega
        clear p1451
        have hO1456 : FrO 14 a1 T I0 I1446 := hO240.st g1449 (by decide +kernel)
        have ov1457 := w1452.over (by rw [c1436]; omega)
        obtain ⟨v1458, c1459⟩ : ∃ v, I1446 a0 9 = v := ⟨_, rfl⟩
        have b1460 := iv15_9 hS1453.1 ta0 c1459
        obtain ⟨v1461, c1462⟩ : ∃ v, I1446 a0 13 = v := ⟨_, rfl⟩
        obtain ⟨v1463, c1464⟩ : ∃ v, I1446 a0 14 = v := ⟨_, rfl⟩
        (try rw [c1459] at ov1457)
        (try rw [c1462] at ov1457)
        (try rw [c1464] at ov1457)
        (try rw [c1436] at ov1457)
        (try rw [c1439] at ov1457)
        (try rw [c1441] at ov1457)
        refine tr_istore dX12_readTurner_145 (by decide) (by decide) ?_
        refine tr_aload_n dX12_readTurner_147 hl0 ?_
        refine tr_ldcS dX12_readTurner_148 ld12_253 ?_
        refine q_callVv hE (M' := mX12_needs) (as := [_]) dX12_readTurner_150 lk12_157 inX12_needs seX12_needs myX12_needs (by decide) ⟨by decide, by decide⟩ rfl (kR15 hS1453.1 ta0) (Nat.le_of_ble_eq_true rfl) rfl rfl (by decide) (by decide) (k_X12_needs hS1453.1 ta0 (by decide)) ?_
        rintro cn' K' N' I1465 R1466 L1467 ⟨rfl, rfl, rfl, rfl, g1468, w1470, -⟩
        have hS1471 := hS1453.tr g1468 (by decide +kernel) (by decide +kernel)
        have c1472 : I1465 a1 4 = v45 := (g1468.cell ta1 (by decide +kernel)).trans c1454
        have hO1473 : FrO 14 a1 T I0 I1465 := hO1456.st g1468 (by decide +kernel)
        have ov1474 := w1470.over (by rw [c1459]; omega)
        obtain ⟨v1475, c1476⟩ : ∃ v, I1465 a0 9 = v := ⟨_, rfl⟩
        have b1477 := iv15_9 hS1471.1 ta0 c1476
        obtain ⟨v1478, c1479⟩ : ∃ v, I1465 a0 13 = v := ⟨_, rfl⟩
        obtain ⟨v1480, c1481⟩ : ∃ v, I1465 a0 14 = v := ⟨_, rfl⟩
        (try rw [c1476] at ov1474)
        (try rw [c1479] at ov1474)
        (try rw [c1481] at ov1474)
        (try rw [c1459] at ov1474)
        (try rw [c1462] at ov1474)
        (try rw [c1464] at ov1474)
        refine q_iconst dX12_readTurner_153 (by decide) ?_
        intro v1482 h1483
        refine tr_istore dX12_readTurner_154 (by decide) (by decide) ?_
        refine q_iconst dX12_readTurner_156 (by decide) ?_
        intro v1484 h1485
        refine tr_istore dX12_readTurner_157 (by decide) (by decide) ?_
        refine tr_iload dX12_readTurner_159 rfl ?_
        refine q_if_eq 227 dX12_readTurner_161 (by decide) (fun h1486 => ?_) (fun h1486 => ?_)
        · skip
          exfalso; omega
        · skip
          refine tr_aload_n dX12_readTurner_164 hl0 ?_
          refine q_getI dX12_readTurner_165 fl12_99 (kR15 hS1471.1 ta0) c1476 ?_
          refine q_iconst dX12_readTurner_168 (by decide) ?_
          intro v1487 h1488
          refine q_icmp_eq 227 dX12_readTurner_169 (by decide) (fun h1489 => ?_) (fun h1489 => ?_)
          · skip
            refine tr_aload_n dX12_readTurner_227 hl0 ?_
            refine q_getI dX12_readTurner_228 fl12_99 (kR15 hS1471.1 ta0) c1476 ?_
            refine q_iconst dX12_readTurner_231 (by decide) ?_
            intro v1490 h1491
            refine q_icmp_ne 236 dX12_readTurner_232 (by decide) (fun h1492 => ?_) (fun h1492 => ?_)
            · skip
              exfalso; omega
            · skip
              have eF := hF.eq
              have eP := hP.eq
              obtain ⟨v1493, c1494⟩ : ∃ v, I1465 a0 10 = v := ⟨_, rfl⟩
              have b1495 := iv15_10 hS1471.1 ta0 c1494
              obtain ⟨v1496, c1497⟩ : ∃ v, I1465 a0 11 = v := ⟨_, rfl⟩
              obtain ⟨y1498, c1499⟩ : ∃ v, L1467 a0 15 = v := ⟨_, rfl⟩
              obtain ⟨v1500, c1501⟩ : ∃ v, I1465 a0 12 = v := ⟨_, rfl⟩
              obtain ⟨v1502, c1503⟩ : ∃ v, I1465 a0 8 = v := ⟨_, rfl⟩
              have b1504 := iv15_8 hS1471.1 ta0 c1503
              exact tr_vret hZ dX12_readTurner_235 rfl (by decide) (by decide) (hq _ _ _ ⟨hS1471, (fun dr hd => (Option.some.inj (d2.symm.trans hd)) ▸ hO1473), (Or.inr (⟨(by (try rw [w76]); first | done | with_reducible assumption | omega), (by (try rw [w76]); (try rw [c1476]); first | done | with_reducible assumption | omega), (by (try rw [w76]); (try rw [c1479]); first | done | with_reducible assumption | omega), (by (try rw [w76]); (try rw [c1481]); first | done | with_reducible assumption | omega), trivial⟩)), trivial⟩)
          · skip
            exfalso; omega
      · skip
        obtain ⟨v1505, c1506⟩ : ∃ v, I230 a0 9 = v := ⟨_, rfl⟩
        have b1507 := iv15_9 hS238.1 ta0 c1506
        rw [c1506] at p265
        obtain ⟨v1508, c1509⟩ : ∃ v, I230 a0 13 = v := ⟨_, rfl⟩
        rw [c1509] at p266
        obtain ⟨v1510, c1511⟩ : ∃ v, I230 a0 14 = v := ⟨_, rfl⟩
        rw [c1511] at p267
        replace hF := hF.neg (by omega)
        replace hP := hP.neg (by omega)
        replace hF := hF.pos (by omega)
        replace hP := hP.pos (by omega)
        refine tr_istore dX12_readTurner_133 (by decide) (by decide) ?_
        refine tr_aload_n dX12_readTurner_135 hl0 ?_
        refine tr_ldcwS dX12_readTurner_136 ld12_327 ?_
        refine q_iconst dX12_readTurner_139 (by decide) ?_
        intro v1512 h1513
        refine q_bipush dX12_readTurner_140 (by decide +kernel) ?_
        intro v1514 h1515
        refine q_callVi hE (M' := mX12_readPart) (as := [_, _, _]) dX12_readTurner_142 lk12_249 inX12_readPart seX12_readPart myX12_readPart (by decide) ⟨by decide, by decide⟩ rfl (kR15 hS238.1 ta0) (Nat.le_of_ble_eq_true rfl) rfl rfl (by decide) (by decide) (k_X12_readPart hS238.1 ta0 (by decide)) ?_
        rintro v1520 cn' K' N' I1516 R1517 L1518 ⟨rfl, rfl, rfl, rfl, g1519, p1521, w1522, -⟩
        have hS1523 := hS238.tr g1519 (by decide +kernel) (by decide +kernel)
        have c1524 : I1516 a1 4 = v45 := (g1519.cell ta1 (by decide +kernel)).trans c239
        have b1525 : 1 ≤ v1520.toInt ∧ v1520.toInt ≤ 20 := by omega
        clear p1521
        have hO1526 : FrO 14 a1 T I0 I1516 := hO240.st g1519 (by decide +kernel)
        have ov1527 := w1522.over (by rw [c1506]; omega)
        obtain ⟨v1528, c1529⟩ : ∃ v, I1516 a0 9 = v := ⟨_, rfl⟩
        have b1530 := iv15_9 hS1523.1 ta0 c1529
        obtain ⟨v1531, c1532⟩ : ∃ v, I1516 a0 13 = v := ⟨_, rfl⟩
        obtain ⟨v1533, c1534⟩ : ∃ v, I1516 a0 14 = v := ⟨_, rfl⟩
        (try rw [c1529] at ov1527)
        (try rw [c1532] at ov1527)
        (try rw [c1534] at ov1527)
        (try rw [c1506] at ov1527)
        (try rw [c1509] at ov1527)
        (try rw [c1511] at ov1527)
        refine tr_istore dX12_readTurner_145 (by decide) (by decide) ?_
        refine tr_aload_n dX12_readTurner_147 hl0 ?_
        refine tr_ldcS dX12_readTurner_148 ld12_253 ?_
        refine q_callVv hE (M' := mX12_needs) (as := [_]) dX12_readTurner_150 lk12_157 inX12_needs seX12_needs myX12_needs (by decide) ⟨by decide, by decide⟩ rfl (kR15 hS1523.1 ta0) (Nat.le_of_ble_eq_true rfl) rfl rfl (by decide) (by decide) (k_X12_needs hS1523.1 ta0 (by decide)) ?_
        rintro cn' K' N' I1535 R1536 L1537 ⟨rfl, rfl, rfl, rfl, g1538, w1540, -⟩
        have hS1541 := hS1523.tr g1538 (by decide +kernel) (by decide +kernel)
        have c1542 : I1535 a1 4 = v45 := (g1538.cell ta1 (by decide +kernel)).trans c1524
        have hO1543 : FrO 14 a1 T I0 I1535 := hO1526.st g1538 (by decide +kernel)
        have ov1544 := w1540.over (by rw [c1529]; omega)
        obtain ⟨v1545, c1546⟩ : ∃ v, I1535 a0 9 = v := ⟨_, rfl⟩
        have b1547 := iv15_9 hS1541.1 ta0 c1546
        obtain ⟨v1548, c1549⟩ : ∃ v, I1535 a0 13 = v := ⟨_, rfl⟩
        obtain ⟨v1550, c1551⟩ : ∃ v, I1535 a0 14 = v := ⟨_, rfl⟩
        (try rw [c1546] at ov1544)
        (try rw [c1549] at ov1544)
        (try rw [c1551] at ov1544)
        (try rw [c1529] at ov1544)
        (try rw [c1532] at ov1544)
        (try rw [c1534] at ov1544)
        refine q_iconst dX12_readTurner_153 (by decide) ?_
        intro v1552 h1553
        refine tr_istore dX12_readTurner_154 (by decide) (by decide) ?_
        refine q_iconst dX12_readTurner_156 (by decide) ?_
        intro v1554 h1555
        refine tr_istore dX12_readTurner_157 (by decide) (by decide) ?_
        refine tr_iload dX12_readTurner_159 rfl ?_
        refine q_if_eq 227 dX12_readTurner_161 (by decide) (fun h1556 => ?_) (fun h1556 => ?_)
        · skip
          exfalso; omega
        · skip
          refine tr_aload_n dX12_readTurner_164 hl0 ?_
          refine q_getI dX12_readTurner_165 fl12_99 (kR15 hS1541.1 ta0) c1546 ?_
          refine q_iconst dX12_readTurner_168 (by decide) ?_
          intro v1557 h1558
          refine q_icmp_eq 227 dX12_readTurner_169 (by decide) (fun h1559 => ?_) (fun h1559 => ?_)
          · skip
            refine tr_aload_n dX12_readTurner_227 hl0 ?_
            refine q_getI dX12_readTurner_228 fl12_99 (kR15 hS1541.1 ta0) c1546 ?_
            refine q_iconst dX12_readTurner_231 (by decide) ?_
            intro v1560 h1561
            refine q_icmp_ne 236 dX12_readTurner_232 (by decide) (fun h1562 => ?_) (fun h1562 => ?_)
            · skip
              exfalso; omega
            · skip
              have eF := hF.eq
              have eP := hP.eq
              obtain ⟨v1563, c1564⟩ : ∃ v, I1535 a0 10 = v := ⟨_, rfl⟩
              have b1565 := iv15_10 hS1541.1 ta0 c1564
              obtain ⟨v1566, c1567⟩ : ∃ v, I1535 a0 11 = v := ⟨_, rfl⟩
              obtain ⟨y1568, c1569⟩ : ∃ v, L1537 a0 15 = v := ⟨_, rfl⟩
              obtain ⟨v1570, c1571⟩ : ∃ v, I1535 a0 12 = v := ⟨_, rfl⟩
              obtain ⟨v1572, c1573⟩ : ∃ v, I1535 a0 8 = v := ⟨_, rfl⟩
              have b1574 := iv15_8 hS1541.1 ta0 c1573
              exact tr_vret hZ dX12_readTurner_235 rfl (by decide) (by decide) (hq _ _ _ ⟨hS1541, (fun dr hd => (Option.some.inj (d2.symm.trans hd)) ▸ hO1543), (Or.inr (⟨(by (try rw [w76]); first | done | with_reducible assumption | omega), (by (try rw [w76]); (try rw [c1546]); first | done | with_reducible assumption | omega), (by (try rw [w76]); (try rw [c1549]); first | done | with_reducible assumption | omega), (by (try rw [w76]); (try rw [c1551]); first | done | with_reducible assumption | omega), trivial⟩)), trivial⟩)
          · skip
            exfalso; omega
      · skip
        obtain ⟨v1575, c1576⟩ : ∃ v, I230 a0 9 = v := ⟨_, rfl⟩
        have b1577 := iv15_9 hS238.1 ta0 c1576
        rw [c1576] at p273
        obtain ⟨v1578, c1579⟩ : ∃ v, I230 a0 13 = v := ⟨_, rfl⟩
        rw [c1579] at p274
        obtain ⟨v1580, c1581⟩ : ∃ v, I230 a0 14 = v := ⟨_, rfl⟩
        rw [c1581] at p275
        replace hF := hF.neg (by omega)
        replace hP := hP.neg (by omega)
        replace hF := hF.neg (by omega)
        replace hP := hP.neg (by omega)
        replace hF := hF.pos (by omega)
        replace hP := hP.pos (by omega)
        refine tr_istore dX12_readTurner_133 (by decide) (by decide) ?_
        refine tr_aload_n dX12_readTurner_135 hl0 ?_
        refine tr_ldcwS dX12_readTurner_136 ld12_327 ?_
        refine q_iconst dX12_readTurner_139 (by decide) ?_
        intro v1582 h1583
        refine q_bipush dX12_readTurner_140 (by decide +kernel) ?_
        intro v1584 h1585
        refine q_callVi hE (M' := mX12_readPart) (as := [_, _, _]) dX12_readTurner_142 lk12_249 inX12_readPart seX12_readPart myX12_readPart (by decide) ⟨by decide, by decide⟩ rfl (kR15 hS238.1 ta0) (Nat.le_of_ble_eq_true rfl) rfl rfl (by decide) (by decide) (k_X12_readPart hS238.1 ta0 (by decide)) ?_
        rintro v1590 cn' K' N' I1586 R1587 L1588 ⟨rfl, rfl, rfl, rfl, g1589, p1591, w1592, -⟩
        have hS1593 := hS238.tr g1589 (by decide +kernel) (by decide +kernel)
        have c1594 : I1586 a1 4 = v45 := (g1589.cell ta1 (by decide +kernel)).trans c239
        have b1595 : 1 ≤ v1590.toInt ∧ v1590.toInt ≤ 20 := by omega
        clear p1591
        have hO1596 : FrO 14 a1 T I0 I1586 := hO240.st g1589 (by decide +kernel)
        have ov1597 := w1592.over (by rw [c1576]; omega)
        obtain ⟨v1598, c1599⟩ : ∃ v, I1586 a0 9 = v := ⟨_, rfl⟩
        have b1600 := iv15_9 hS1593.1 ta0 c1599
        obtain ⟨v1601, c1602⟩ : ∃ v, I1586 a0 13 = v := ⟨_, rfl⟩
        obtain ⟨v1603, c1604⟩ : ∃ v, I1586 a0 14 = v := ⟨_, rfl⟩
        (try rw [c1599] at ov1597)
        (try rw [c1602] at ov1597)
        (try rw [c1604] at ov1597)
        (try rw [c1576] at ov1597)
        (try rw [c1579] at ov1597)
        (try rw [c1581] at ov1597)
        refine tr_istore dX12_readTurner_145 (by decide) (by decide) ?_
        refine tr_aload_n dX12_readTurner_147 hl0 ?_
        refine tr_ldcS dX12_readTurner_148 ld12_253 ?_
        refine q_callVv hE (M' := mX12_needs) (as := [_]) dX12_readTurner_150 lk12_157 inX12_needs seX12_needs myX12_needs (by decide) ⟨by decide, by decide⟩ rfl (kR15 hS1593.1 ta0) (Nat.le_of_ble_eq_true rfl) rfl rfl (by decide) (by decide) (k_X12_needs hS1593.1 ta0 (by decide)) ?_
        rintro cn' K' N' I1605 R1606 L1607 ⟨rfl, rfl, rfl, rfl, g1608, w1610, -⟩
        have hS1611 := hS1593.tr g1608 (by decide +kernel) (by decide +kernel)
        have c1612 : I1605 a1 4 = v45 := (g1608.cell ta1 (by decide +kernel)).trans c1594
        have hO1613 : FrO 14 a1 T I0 I1605 := hO1596.st g1608 (by decide +kernel)
        have ov1614 := w1610.over (by rw [c1599]; omega)
        obtain ⟨v1615, c1616⟩ : ∃ v, I1605 a0 9 = v := ⟨_, rfl⟩
        have b1617 := iv15_9 hS1611.1 ta0 c1616
        obtain ⟨v1618, c1619⟩ : ∃ v, I1605 a0 13 = v := ⟨_, rfl⟩
        obtain ⟨v1620, c1621⟩ : ∃ v, I1605 a0 14 = v := ⟨_, rfl⟩
        (try rw [c1616] at ov1614)
        (try rw [c1619] at ov1614)
        (try rw [c1621] at ov1614)
        (try rw [c1599] at ov1614)
        (try rw [c1602] at ov1614)
        (try rw [c1604] at ov1614)
        refine q_iconst dX12_readTurner_153 (by decide) ?_
        intro v1622 h1623
        refine tr_istore dX12_readTurner_154 (by decide) (by decide) ?_
        refine q_iconst dX12_readTurner_156 (by decide) ?_
        intro v1624 h1625
        refine tr_istore dX12_readTurner_157 (by decide) (by decide) ?_
        refine tr_iload dX12_readTurner_159 rfl ?_
        refine q_if_eq 227 dX12_readTurner_161 (by decide) (fun h1626 => ?_) (fun h1626 => ?_)
        · skip
          exfalso; omega
        · skip
          refine tr_aload_n dX12_readTurner_164 hl0 ?_
          refine q_getI dX12_readTurner_165 fl12_99 (kR15 hS1611.1 ta0) c1616 ?_
          refine q_iconst dX12_readTurner_168 (by decide) ?_
          intro v1627 h1628
          refine q_icmp_eq 227 dX12_readTurner_169 (by decide) (fun h1629 => ?_) (fun h1629 => ?_)
          · skip
            refine tr_aload_n dX12_readTurner_227 hl0 ?_
            refine q_getI dX12_readTurner_228 fl12_99 (kR15 hS1611.1 ta0) c1616 ?_
            refine q_iconst dX12_readTurner_231 (by decide) ?_
            intro v1630 h1631
            refine q_icmp_ne 236 dX12_readTurner_232 (by decide) (fun h1632 => ?_) (fun h1632 => ?_)
            · skip
              exfalso; omega
            · skip
              have eF := hF.eq
              have eP := hP.eq
              obtain ⟨v1633, c1634⟩ : ∃ v, I1605 a0 10 = v := ⟨_, rfl⟩
              have b1635 := iv15_10 hS1611.1 ta0 c1634
              obtain ⟨v1636, c1637⟩ : ∃ v, I1605 a0 11 = v := ⟨_, rfl⟩
              obtain ⟨y1638, c1639⟩ : ∃ v, L1607 a0 15 = v := ⟨_, rfl⟩
              obtain ⟨v1640, c1641⟩ : ∃ v, I1605 a0 12 = v := ⟨_, rfl⟩
              obtain ⟨v1642, c1643⟩ : ∃ v, I1605 a0 8 = v := ⟨_, rfl⟩
              have b1644 := iv15_8 hS1611.1 ta0 c1643
              exact tr_vret hZ dX12_readTurner_235 rfl (by decide) (by decide) (hq _ _ _ ⟨hS1611, (fun dr hd => (Option.some.inj (d2.symm.trans hd)) ▸ hO1613), (Or.inr (⟨(by (try rw [w76]); first | done | with_reducible assumption | omega), (by (try rw [w76]); (try rw [c1616]); first | done | with_reducible assumption | omega), (by (try rw [w76]); (try rw [c1619]); first | done | with_reducible assumption | omega), (by (try rw [w76]); (try rw [c1621]); first | done | with_reducible assumption | omega), trivial⟩)), trivial⟩)
          · skip
            exfalso; omega
    · skip
      obtain ⟨v1645, c1646⟩ : ∃ v, I161 a0 9 = v := ⟨_, rfl⟩
      have b1647 := iv15_9 hS169.1 ta0 c1646
      rw [c1646] at p189
      obtain ⟨v1648, c1649⟩ : ∃ v, I161 a0 13 = v := ⟨_, rfl⟩
      rw [c1649] at p190
      obtain ⟨v1650, c1651⟩ : ∃ v, I161 a0 14 = v := ⟨_, rfl⟩
      rw [c1651] at p191
      replace hF := hF.pos (by omega)
      replace hP := hP.pos (by omega)
      refine tr_istore dX12_readTurner_121 (by decide) (by decide) ?_
      refine tr_aload_n dX12_readTurner_123 hl0 ?_
      refine tr_ldcwS dX12_readTurner_124 ld12_325 ?_
      refine q_iconst dX12_readTurner_127 (by decide) ?_
      intro v1652 h1653
      refine q_bipush dX12_readTurner_128 (by decide +kernel) ?_
      intro v1654 h1655
      refine q_callVi hE (M' := mX12_readPart) (as := [_, _, _]) dX12_readTurner_130 lk12_249 inX12_readPart seX12_readPart myX12_readPart (by decide) ⟨by decide, by decide⟩ rfl (kR15 hS169.1 ta0) (Nat.le_of_ble_eq_true rfl) rfl rfl (by decide) (by decide) (k_X12_readPart hS169.1 ta0 (by decide)) ?_
      rintro v1660 cn' K' N' I1656 R1657 L1658 ⟨rfl, rfl, rfl, rfl, g1659, p1661, w1662, -⟩
      have hS1663 := hS169.tr g1659 (by decide +kernel) (by decide +kernel)
      have c1664 : I1656 a1 4 = v45 := (g1659.cell ta1 (by decide +kernel)).trans c170
      have b1665 : 1 ≤ v1660.toInt ∧ v1660.toInt ≤ 8 := by omega
      clear p1661
      have hO1666 : FrO 14 a1 T I0 I1656 := hO171.st g1659 (by decide +kernel)
      have ov1667 := w1662.over (by rw [c1646]; omega)
      obtain ⟨v1668, c1669⟩ : ∃ v, I1656 a0 9 = v := ⟨_, rfl⟩
      have b1670 := iv15_9 hS1663.1 ta0 c1669
      obtain ⟨v1671, c1672⟩ : ∃ v, I1656 a0 13 = v := ⟨_, rfl⟩
      obtain ⟨v1673, c1674⟩ : ∃ v, I1656 a0 14 = v := ⟨_, rfl⟩
      (try rw [c1669] at ov1667)
      (try rw [c1672] at ov1667)
      (try rw [c1674] at ov1667)
      (try rw [c1646] at ov1667)
      (try rw [c1649] at ov1667)
      (try rw [c1651] at ov1667)
      refine tr_istore dX12_readTurner_133 (by decide) (by decide) ?_
      refine tr_aload_n dX12_readTurner_135 hl0 ?_
      refine tr_ldcwS dX12_readTurner_136 ld12_327 ?_
      refine q_iconst dX12_readTurner_139 (by decide) ?_
      intro v1675 h1676
      refine q_bipush dX12_readTurner_140 (by decide +kernel) ?_
      intro v1677 h1678
      refine q_callVi hE (M' := mX12_readPart) (as := [_, _, _]) dX12_readTurner_142 lk12_249 inX12_readPart seX12_readPart myX12_readPart (by decide) ⟨by decide, by decide⟩ rfl (kR15 hS1663.1 ta0) (Nat.le_of_ble_eq_true rfl) rfl rfl (by decide) (by decide) (k_X12_readPart hS1663.1 ta0 (by decide)) ?_
      rintro v1683 cn' K' N' I1679 R1680 L1681 ⟨rfl, rfl, rfl, rfl, g1682, p1684, w1685, -⟩
      have hS1686 := hS1663.tr g1682 (by decide +kernel) (by decide +kernel)
      have c1687 : I1679 a1 4 = v45 := (g1682.cell ta1 (by decide +kernel)).trans c1664
      have b1688 : 1 ≤ v1683.toInt ∧ v1683.toInt ≤ 20 := by omega
      clear p1684
      have hO1689 : FrO 14 a1 T I0 I1679 := hO1666.st g1682 (by decide +kernel)
      have ov1690 := w1685.over (by rw [c1669]; omega)
      obtain ⟨v1691, c1692⟩ : ∃ v, I1679 a0 9 = v := ⟨_, rfl⟩
      have b1693 := iv15_9 hS1686.1 ta0 c1692
      obtain ⟨v1694, c1695⟩ : ∃ v, I1679 a0 13 = v := ⟨_, rfl⟩
      obtain ⟨v1696, c1697⟩ : ∃ v, I1679 a0 14 = v := ⟨_, rfl⟩
      (try rw [c1692] at ov1690)
      (try rw [c1695] at ov1690)
      (try rw [c1697] at ov1690)
      (try rw [c1669] at ov1690)
      (try rw [c1672] at ov1690)
      (try rw [c1674] at ov1690)
      refine tr_istore dX12_readTurner_145 (by decide) (by decide) ?_
      refine tr_aload_n dX12_readTurner_147 hl0 ?_
      refine tr_ldcS dX12_readTurner_148 ld12_253 ?_
      refine q_callVv hE (M' := mX12_needs) (as := [_]) dX12_readTurner_150 lk12_157 inX12_needs seX12_needs myX12_needs (by decide) ⟨by decide, by decide⟩ rfl (kR15 hS1686.1 ta0) (Nat.le_of_ble_eq_true rfl) rfl rfl (by decide) (by decide) (k_X12_needs hS1686.1 ta0 (by decide)) ?_
      rintro cn' K' N' I1698 R1699 L1700 ⟨rfl, rfl, rfl, rfl, g1701, w1703, -⟩
      have hS1704 := hS1686.tr g1701 (by decide +kernel) (by decide +kernel)
      have c1705 : I1698 a1 4 = v45 := (g1701.cell ta1 (by decide +kernel)).trans c1687
      have hO1706 : FrO 14 a1 T I0 I1698 := hO1689.st g1701 (by decide +kernel)
      have ov1707 := w1703.over (by rw [c1692]; omega)
      obtain ⟨v1708, c1709⟩ : ∃ v, I1698 a0 9 = v := ⟨_, rfl⟩
      have b1710 := iv15_9 hS1704.1 ta0 c1709
      obtain ⟨v1711, c1712⟩ : ∃ v, I1698 a0 13 = v := ⟨_, rfl⟩
      obtain ⟨v1713, c1714⟩ : ∃ v, I1698 a0 14 = v := ⟨_, rfl⟩
      (try rw [c1709] at ov1707)
      (try rw [c1712] at ov1707)
      (try rw [c1714] at ov1707)
      (try rw [c1692] at ov1707)
      (try rw [c1695] at ov1707)
      (try rw [c1697] at ov1707)
      refine q_iconst dX12_readTurner_153 (by decide) ?_
      intro v1715 h1716
      refine tr_istore dX12_readTurner_154 (by decide) (by decide) ?_
      refine q_iconst dX12_readTurner_156 (by decide) ?_
      intro v1717 h1718
      refine tr_istore dX12_readTurner_157 (by decide) (by decide) ?_
      refine tr_iload dX12_readTurner_159 rfl ?_
      refine q_if_eq 227 dX12_readTurner_161 (by decide) (fun h1719 => ?_) (fun h1719 => ?_)
      · skip
        exfalso; omega
      · skip
        refine tr_aload_n dX12_readTurner_164 hl0 ?_
        refine q_getI dX12_readTurner_165 fl12_99 (kR15 hS1704.1 ta0) c1709 ?_
        refine q_iconst dX12_readTurner_168 (by decide) ?_
        intro v1720 h1721
        refine q_icmp_eq 227 dX12_readTurner_169 (by decide) (fun h1722 => ?_) (fun h1722 => ?_)
        · skip
          refine tr_aload_n dX12_readTurner_227 hl0 ?_
          refine q_getI dX12_readTurner_228 fl12_99 (kR15 hS1704.1 ta0) c1709 ?_
          refine q_iconst dX12_readTurner_231 (by decide) ?_
          intro v1723 h1724
          refine q_icmp_ne 236 dX12_readTurner_232 (by decide) (fun h1725 => ?_) (fun h1725 => ?_)
          · skip
            exfalso; omega
          · skip
            have eF := hF.eq
            have eP := hP.eq
            obtain ⟨v1726, c1727⟩ : ∃ v, I1698 a0 10 = v := ⟨_, rfl⟩
            have b1728 := iv15_10 hS1704.1 ta0 c1727
            obtain ⟨v1729, c1730⟩ : ∃ v, I1698 a0 11 = v := ⟨_, rfl⟩
            obtain ⟨y1731, c1732⟩ : ∃ v, L1700 a0 15 = v := ⟨_, rfl⟩
            obtain ⟨v1733, c1734⟩ : ∃ v, I1698 a0 12 = v := ⟨_, rfl⟩
            obtain ⟨v1735, c1736⟩ : ∃ v, I1698 a0 8 = v := ⟨_, rfl⟩
            have b1737 := iv15_8 hS1704.1 ta0 c1736
            exact tr_vret hZ dX12_readTurner_235 rfl (by decide) (by decide) (hq _ _ _ ⟨hS1704, (fun dr hd => (Option.some.inj (d2.symm.trans hd)) ▸ hO1706), (Or.inr (⟨(by (try rw [w76]); first | done | with_reducible assumption | omega), (by (try rw [w76]); (try rw [c1709]); first | done | with_reducible assumption | omega), (by (try rw [w76]); (try rw [c1712]); first | done | with_reducible assumption | omega), (by (try rw [w76]); (try rw [c1714]); first | done | with_reducible assumption | omega), trivial⟩)), trivial⟩)
        · skip
          exfalso; omega
    · skip
      obtain ⟨v1738, c1739⟩ : ∃ v, I161 a0 9 = v := ⟨_, rfl⟩
      have b1740 := iv15_9 hS169.1 ta0 c1739
      rw [c1739] at p196
      obtain ⟨v1741, c1742⟩ : ∃ v, I161 a0 13 = v := ⟨_, rfl⟩
      rw [c1742] at p197
      obtain ⟨v1743, c1744⟩ : ∃ v, I161 a0 14 = v := ⟨_, rfl⟩
      rw [c1744] at p198
      replace hF := hF.neg (by omega)
      replace hP := hP.neg (by omega)
      replace hF := hF.pos (by omega)
      replace hP := hP.pos (by omega)
      refine tr_istore dX12_readTurner_121 (by decide) (by decide) ?_
      refine tr_aload_n dX12_readTurner_123 hl0 ?_
      refine tr_ldcwS dX12_readTurner_124 ld12_325 ?_
      refine q_iconst dX12_readTurner_127 (by decide) ?_
      intro v1745 h1746
      refine q_bipush dX12_readTurner_128 (by decide +kernel) ?_
      intro v1747 h1748
      refine q_callVi hE (M' := mX12_readPart) (as := [_, _, _]) dX12_readTurner_130 lk12_249 inX12_readPart seX12_readPart myX12_readPart (by decide) ⟨by decide, by decide⟩ rfl (kR15 hS169.1 ta0) (Nat.le_of_ble_eq_true rfl) rfl rfl (by decide) (by decide) (k_X12_readPart hS169.1 ta0 (by decide)) ?_
      rintro v1753 cn' K' N' I1749 R1750 L1751 ⟨rfl, rfl, rfl, rfl, g1752, p1754, w1755, -⟩
      have hS1756 := hS169.tr g1752 (by decide +kernel) (by decide +kernel)
      have c1757 : I1749 a1 4 = v45 := (g1752.cell ta1 (by decide +kernel)).trans c170
      have b1758 : 1 ≤ v1753.toInt ∧ v1753.toInt ≤ 8 := by omega
      clear p1754
      have hO1759 : FrO 14 a1 T I0 I1749 := hO171.st g1752 (by decide +kernel)
      have ov1760 := w1755.over (by rw [c1739]; omega)
      obtain ⟨v1761, c1762⟩ : ∃ v, I1749 a0 9 = v := ⟨_, rfl⟩
      have b1763 := iv15_9 hS1756.1 ta0 c1762
      obtain ⟨v1764, c1765⟩ : ∃ v, I1749 a0 13 = v := ⟨_, rfl⟩
      obtain ⟨v1766, c1767⟩ : ∃ v, I1749 a0 14 = v := ⟨_, rfl⟩
      (try rw [c1762] at ov1760)
      (try rw [c1765] at ov1760)
      (try rw [c1767] at ov1760)
      (try rw [c1739] at ov1760)
      (try rw [c1742] at ov1760)
      (try rw [c1744] at ov1760)
      refine tr_istore dX12_readTurner_133 (by decide) (by decide) ?_
      refine tr_aload_n dX12_readTurner_135 hl0 ?_
      refine tr_ldcwS dX12_readTurner_136 ld12_327 ?_
      refine q_iconst dX12_readTurner_139 (by decide) ?_
      intro v1768 h1769
      refine q_bipush dX12_readTurner_140 (by decide +kernel) ?_
      intro v1770 h1771
      refine q_callVi hE (M' := mX12_readPart) (as := [_, _, _]) dX12_readTurner_142 lk12_249 inX12_readPart seX12_readPart myX12_readPart (by decide) ⟨by decide, by decide⟩ rfl (kR15 hS1756.1 ta0) (Nat.le_of_ble_eq_true rfl) rfl rfl (by decide) (by decide) (k_X12_readPart hS1756.1 ta0 (by decide)) ?_
      rintro v1776 cn' K' N' I1772 R1773 L1774 ⟨rfl, rfl, rfl, rfl, g1775, p1777, w1778, -⟩
      have hS1779 := hS1756.tr g1775 (by decide +kernel) (by decide +kernel)
      have c1780 : I1772 a1 4 = v45 := (g1775.cell ta1 (by decide +kernel)).trans c1757
      have b1781 : 1 ≤ v1776.toInt ∧ v1776.toInt ≤ 20 := by omega
      clear p1777
      have hO1782 : FrO 14 a1 T I0 I1772 := hO1759.st g1775 (by decide +kernel)
      have ov1783 := w1778.over (by rw [c1762]; omega)
      obtain ⟨v1784, c1785⟩ : ∃ v, I1772 a0 9 = v := ⟨_, rfl⟩
      have b1786 := iv15_9 hS1779.1 ta0 c1785
      obtain ⟨v1787, c1788⟩ : ∃ v, I1772 a0 13 = v := ⟨_, rfl⟩
      obtain ⟨v1789, c1790⟩ : ∃ v, I1772 a0 14 = v := ⟨_, rfl⟩
      (try rw [c1785] at ov1783)
      (try rw [c1788] at ov1783)
      (try rw [c1790] at ov1783)
      (try rw [c1762] at ov1783)
      (try rw [c1765] at ov1783)
      (try rw [c1767] at ov1783)
      refine tr_istore dX12_readTurner_145 (by decide) (by decide) ?_
      refine tr_aload_n dX12_readTurner_147 hl0 ?_
      refine tr_ldcS dX12_readTurner_148 ld12_253 ?_
      refine q_callVv hE (M' := mX12_needs) (as := [_]) dX12_readTurner_150 lk12_157 inX12_needs seX12_needs myX12_needs (by decide) ⟨by decide, by decide⟩ rfl (kR15 hS1779.1 ta0) (Nat.le_of_ble_eq_true rfl) rfl rfl (by decide) (by decide) (k_X12_needs hS1779.1 ta0 (by decide)) ?_
      rintro cn' K' N' I1791 R1792 L1793 ⟨rfl, rfl, rfl, rfl, g1794, w1796, -⟩
      have hS1797 := hS1779.tr g1794 (by decide +kernel) (by decide +kernel)
      have c1798 : I1791 a1 4 = v45 := (g1794.cell ta1 (by decide +kernel)).trans c1780
      have hO1799 : FrO 14 a1 T I0 I1791 := hO1782.st g1794 (by decide +kernel)
      have ov1800 := w1796.over (by rw [c1785]; omega)
      obtain ⟨v1801, c1802⟩ : ∃ v, I1791 a0 9 = v := ⟨_, rfl⟩
      have b1803 := iv15_9 hS1797.1 ta0 c1802
      obtain ⟨v1804, c1805⟩ : ∃ v, I1791 a0 13 = v := ⟨_, rfl⟩
      obtain ⟨v1806, c1807⟩ : ∃ v, I1791 a0 14 = v := ⟨_, rfl⟩
      (try rw [c1802] at ov1800)
      (try rw [c1805] at ov1800)
      (try rw [c1807] at ov1800)
      (try rw [c1785] at ov1800)
      (try rw [c1788] at ov1800)
      (try rw [c1790] at ov1800)
      refine q_iconst dX12_readTurner_153 (by decide) ?_
      intro v1808 h1809
      refine tr_istore dX12_readTurner_154 (by decide) (by decide) ?_
      refine q_iconst dX12_readTurner_156 (by decide) ?_
      intro v1810 h1811
      refine tr_istore dX12_readTurner_157 (by decide) (by decide) ?_
      refine tr_iload dX12_readTurner_159 rfl ?_
      refine q_if_eq 227 dX12_readTurner_161 (by decide) (fun h1812 => ?_) (fun h1812 => ?_)
      · skip
        exfalso; omega
      · skip
        refine tr_aload_n dX12_readTurner_164 hl0 ?_
        refine q_getI dX12_readTurner_165 fl12_99 (kR15 hS1797.1 ta0) c1802 ?_
        refine q_iconst dX12_readTurner_168 (by decide) ?_
        intro v1813 h1814
        refine q_icmp_eq 227 dX12_readTurner_169 (by decide) (fun h1815 => ?_) (fun h1815 => ?_)
        · skip
          refine tr_aload_n dX12_readTurner_227 hl0 ?_
          refine q_getI dX12_readTurner_228 fl12_99 (kR15 hS1797.1 ta0) c1802 ?_
          refine q_iconst dX12_readTurner_231 (by decide) ?_
          intro v1816 h1817
          refine q_icmp_ne 236 dX12_readTurner_232 (by decide) (fun h1818 => ?_) (fun h1818 => ?_)
          · skip
            exfalso; omega
          · skip
            have eF := hF.eq
            have eP := hP.eq
            obtain ⟨v1819, c1820⟩ : ∃ v, I1791 a0 10 = v := ⟨_, rfl⟩
            have b1821 := iv15_10 hS1797.1 ta0 c1820
            obtain ⟨v1822, c1823⟩ : ∃ v, I1791 a0 11 = v := ⟨_, rfl⟩
            obtain ⟨y1824, c1825⟩ : ∃ v, L1793 a0 15 = v := ⟨_, rfl⟩
            obtain ⟨v1826, c1827⟩ : ∃ v, I1791 a0 12 = v := ⟨_, rfl⟩
            obtain ⟨v1828, c1829⟩ : ∃ v, I1791 a0 8 = v := ⟨_, rfl⟩
            have b1830 := iv15_8 hS1797.1 ta0 c1829
            exact tr_vret hZ dX12_readTurner_235 rfl (by decide) (by decide) (hq _ _ _ ⟨hS1797, (fun dr hd => (Option.some.inj (d2.symm.trans hd)) ▸ hO1799), (Or.inr (⟨(by (try rw [w76]); first | done | with_reducible assumption | omega), (by (try rw [w76]); (try rw [c1802]); first | done | with_reducible assumption | omega), (by (try rw [w76]); (try rw [c1805]); first | done | with_reducible assumption | omega), (by (try rw [w76]); (try rw [c1807]); first | done | with_reducible assumption | omega), trivial⟩)), trivial⟩)
        · skip
          exfalso; omega
    · skip
      obtain ⟨v1831, c1832⟩ : ∃ v, I161 a0 9 = v := ⟨_, rfl⟩
      have b1833 := iv15_9 hS169.1 ta0 c1832
      rw [c1832] at p204
      obtain ⟨v1834, c1835⟩ : ∃ v, I161 a0 13 = v := ⟨_, rfl⟩
      rw [c1835] at p205
      obtain ⟨v1836, c1837⟩ : ∃ v, I161 a0 14 = v := ⟨_, rfl⟩
      rw [c1837] at p206
      replace hF := hF.neg (by omega)
      replace hP := hP.neg (by omega)
      replace hF := hF.neg (by omega)
      replace hP := hP.neg (by omega)
      replace hF := hF.pos (by omega)
      replace hP := hP.pos (by omega)
      refine tr_istore dX12_readTurner_121 (by decide) (by decide) ?_
      refine tr_aload_n dX12_readTurner_123 hl0 ?_
      refine tr_ldcwS dX12_readTurner_124 ld12_325 ?_
      refine q_iconst dX12_readTurner_127 (by decide) ?_
      intro v1838 h1839
      refine q_bipush dX12_readTurner_128 (by decide +kernel) ?_
      intro v1840 h1841
      refine q_callVi hE (M' := mX12_readPart) (as := [_, _, _]) dX12_readTurner_130 lk12_249 inX12_readPart seX12_readPart myX12_readPart (by decide) ⟨by decide, by decide⟩ rfl (kR15 hS169.1 ta0) (Nat.le_of_ble_eq_true rfl) rfl rfl (by decide) (by decide) (k_X12_readPart hS169.1 ta0 (by decide)) ?_
      rintro v1846 cn' K' N' I1842 R1843 L1844 ⟨rfl, rfl, rfl, rfl, g1845, p1847, w1848, -⟩
      have hS1849 := hS169.tr g1845 (by decide +kernel) (by decide +kernel)
      have c1850 : I1842 a1 4 = v45 := (g1845.cell ta1 (by decide +kernel)).trans c170
      have b1851 : 1 ≤ v1846.toInt ∧ v1846.toInt ≤ 8 := by omega
      clear p1847
      have hO1852 : FrO 14 a1 T I0 I1842 := hO171.st g1845 (by decide +kernel)
      have ov1853 := w1848.over (by rw [c1832]; omega)
      obtain ⟨v1854, c1855⟩ : ∃ v, I1842 a0 9 = v := ⟨_, rfl⟩
      have b1856 := iv15_9 hS1849.1 ta0 c1855
      obtain ⟨v1857, c1858⟩ : ∃ v, I1842 a0 13 = v := ⟨_, rfl⟩
      obtain ⟨v1859, c1860⟩ : ∃ v, I1842 a0 14 = v := ⟨_, rfl⟩
      (try rw [c1855] at ov1853)
      (try rw [c1858] at ov1853)
      (try rw [c1860] at ov1853)
      (try rw [c1832] at ov1853)
      (try rw [c1835] at ov1853)
      (try rw [c1837] at ov1853)
      refine tr_istore dX12_readTurner_133 (by decide) (by decide) ?_
      refine tr_aload_n dX12_readTurner_135 hl0 ?_
      refine tr_ldcwS dX12_readTurner_136 ld12_327 ?_
      refine q_iconst dX12_readTurner_139 (by decide) ?_
      intro v1861 h1862
      refine q_bipush dX12_readTurner_140 (by decide +kernel) ?_
      intro v1863 h1864
      refine q_callVi hE (M' := mX12_readPart) (as := [_, _, _]) dX12_readTurner_142 lk12_249 inX12_readPart seX12_readPart myX12_readPart (by decide) ⟨by decide, by decide⟩ rfl (kR15 hS1849.1 ta0) (Nat.le_of_ble_eq_true rfl) rfl rfl (by decide) (by decide) (k_X12_readPart hS1849.1 ta0 (by decide)) ?_
      rintro v1869 cn' K' N' I1865 R1866 L1867 ⟨rfl, rfl, rfl, rfl, g1868, p1870, w1871, -⟩
      have hS1872 := hS1849.tr g1868 (by decide +kernel) (by decide +kernel)
      have c1873 : I1865 a1 4 = v45 := (g1868.cell ta1 (by decide +kernel)).trans c1850
      have b1874 : 1 ≤ v1869.toInt ∧ v1869.toInt ≤ 20 := by omega
      clear p1870
      have hO1875 : FrO 14 a1 T I0 I1865 := hO1852.st g1868 (by decide +kernel)
      have ov1876 := w1871.over (by rw [c1855]; omega)
      obtain ⟨v1877, c1878⟩ : ∃ v, I1865 a0 9 = v := ⟨_, rfl⟩
      have b1879 := iv15_9 hS1872.1 ta0 c1878
      obtain ⟨v1880, c1881⟩ : ∃ v, I1865 a0 13 = v := ⟨_, rfl⟩
      obtain ⟨v1882, c1883⟩ : ∃ v, I1865 a0 14 = v := ⟨_, rfl⟩
      (try rw [c1878] at ov1876)
      (try rw [c1881] at ov1876)
      (try rw [c1883] at ov1876)
      (try rw [c1855] at ov1876)
      (try rw [c1858] at ov1876)
      (try rw [c1860] at ov1876)
      refine tr_istore dX12_readTurner_145 (by decide) (by decide) ?_
      refine tr_aload_n dX12_readTurner_147 hl0 ?_
      refine tr_ldcS dX12_readTurner_148 ld12_253 ?_
      refine q_callVv hE (M' := mX12_needs) (as := [_]) dX12_readTurner_150 lk12_157 inX12_needs seX12_needs myX12_needs (by decide) ⟨by decide, by decide⟩ rfl (kR15 hS1872.1 ta0) (Nat.le_of_ble_eq_true rfl) rfl rfl (by decide) (by decide) (k_X12_needs hS1872.1 ta0 (by decide)) ?_
      rintro cn' K' N' I1884 R1885 L1886 ⟨rfl, rfl, rfl, rfl, g1887, w1889, -⟩
      have hS1890 := hS1872.tr g1887 (by decide +kernel) (by decide +kernel)
      have c1891 : I1884 a1 4 = v45 := (g1887.cell ta1 (by decide +kernel)).trans c1873
      have hO1892 : FrO 14 a1 T I0 I1884 := hO1875.st g1887 (by decide +kernel)
      have ov1893 := w1889.over (by rw [c1878]; omega)
      obtain ⟨v1894, c1895⟩ : ∃ v, I1884 a0 9 = v := ⟨_, rfl⟩
      have b1896 := iv15_9 hS1890.1 ta0 c1895
      obtain ⟨v1897, c1898⟩ : ∃ v, I1884 a0 13 = v := ⟨_, rfl⟩
      obtain ⟨v1899, c1900⟩ : ∃ v, I1884 a0 14 = v := ⟨_, rfl⟩
      (try rw [c1895] at ov1893)
      (try rw [c1898] at ov1893)
      (try rw [c1900] at ov1893)
      (try rw [c1878] at ov1893)
      (try rw [c1881] at ov1893)
      (try rw [c1883] at ov1893)
      refine q_iconst dX12_readTurner_153 (by decide) ?_
      intro v1901 h1902
      refine tr_istore dX12_readTurner_154 (by decide) (by decide) ?_
      refine q_iconst dX12_readTurner_156 (by decide) ?_
      intro v1903 h1904
      refine tr_istore dX12_readTurner_157 (by decide) (by decide) ?_
      refine tr_iload dX12_readTurner_159 rfl ?_
      refine q_if_eq 227 dX12_readTurner_161 (by decide) (fun h1905 => ?_) (fun h1905 => ?_)
      · skip
        exfalso; omega
      · skip
        refine tr_aload_n dX12_readTurner_164 hl0 ?_
        refine q_getI dX12_readTurner_165 fl12_99 (kR15 hS1890.1 ta0) c1895 ?_
        refine q_iconst dX12_readTurner_168 (by decide) ?_
        intro v1906 h1907
        refine q_icmp_eq 227 dX12_readTurner_169 (by decide) (fun h1908 => ?_) (fun h1908 => ?_)
        · skip
          refine tr_aload_n dX12_readTurner_227 hl0 ?_
          refine q_getI dX12_readTurner_228 fl12_99 (kR15 hS1890.1 ta0) c1895 ?_
          refine q_iconst dX12_readTurner_231 (by decide) ?_
          intro v1909 h1910
          refine q_icmp_ne 236 dX12_readTurner_232 (by decide) (fun h1911 => ?_) (fun h1911 => ?_)
          · skip
            exfalso; omega
          · skip
            have eF := hF.eq
            have eP := hP.eq
            obtain ⟨v1912, c1913⟩ : ∃ v, I1884 a0 10 = v := ⟨_, rfl⟩
            have b1914 := iv15_10 hS1890.1 ta0 c1913
            obtain ⟨v1915, c1916⟩ : ∃ v, I1884 a0 11 = v := ⟨_, rfl⟩
            obtain ⟨y1917, c1918⟩ : ∃ v, L1886 a0 15 = v := ⟨_, rfl⟩
            obtain ⟨v1919, c1920⟩ : ∃ v, I1884 a0 12 = v := ⟨_, rfl⟩
            obtain ⟨v1921, c1922⟩ : ∃ v, I1884 a0 8 = v := ⟨_, rfl⟩
            have b1923 := iv15_8 hS1890.1 ta0 c1922
            exact tr_vret hZ dX12_readTurner_235 rfl (by decide) (by decide) (hq _ _ _ ⟨hS1890, (fun dr hd => (Option.some.inj (d2.symm.trans hd)) ▸ hO1892), (Or.inr (⟨(by (try rw [w76]); first | done | with_reducible assumption | omega), (by (try rw [w76]); (try rw [c1895]); first | done | with_reducible assumption | omega), (by (try rw [w76]); (try rw [c1898]); first | done | with_reducible assumption | omega), (by (try rw [w76]); (try rw [c1900]); first | done | with_reducible assumption | omega), trivial⟩)), trivial⟩)
        · skip
          exfalso; omega
  · skip
    obtain ⟨v1924, c1925⟩ : ∃ v, I92 a0 9 = v := ⟨_, rfl⟩
    have b1926 := iv15_9 hS100.1 ta0 c1925
    rw [c1925] at p120
    obtain ⟨v1927, c1928⟩ : ∃ v, I92 a0 13 = v := ⟨_, rfl⟩
    rw [c1928] at p121
    obtain ⟨v1929, c1930⟩ : ∃ v, I92 a0 14 = v := ⟨_, rfl⟩
    rw [c1930] at p122
    replace hF := hF.pos (by omega)
    replace hP := hP.pos (by omega)
    refine tr_istore dX12_readTurner_101 (by decide) (by decide) ?_
    refine tr_aload_n dX12_readTurner_103 hl0 ?_
    refine tr_ldcwS dX12_readTurner_104 ld12_272 ?_
    refine tr_iload dX12_readTurner_107 rfl ?_
    refine q_iconst dX12_readTurner_109 (by decide) ?_
    intro v1931 h1932
    refine q_iaddE dX12_readTurner_110 (by intros; omega) ?_
    intro v1933 h1934
    refine tr_aload_n dX12_readTurner_111 hl0 ?_
    refine tr_getR dX12_readTurner_112 fl12_188 (kR15 hS100.1 ta0) d2 ?_
    refine q_getI dX12_readTurner_115 fl12_192 (kR14 hS100.1 ta1) ((hS100.cell ta1 (by decide +kernel)).trans c30) ?_
    refine q_callVi hE (M' := mX12_readPart) (as := [_, _, _]) dX12_readTurner_118 lk12_249 inX12_readPart seX12_readPart myX12_readPart (by decide) ⟨by decide, by decide⟩ rfl (kR15 hS100.1 ta0) (Nat.le_of_ble_eq_true rfl) rfl rfl (by decide) (by decide) (k_X12_readPart hS100.1 ta0 (by decide)) ?_
    rintro v1939 cn' K' N' I1935 R1936 L1937 ⟨rfl, rfl, rfl, rfl, g1938, p1940, w1941, -⟩
    have hS1942 := hS100.tr g1938 (by decide +kernel) (by decide +kernel)
    have c1943 : I1935 a1 4 = v45 := (g1938.cell ta1 (by decide +kernel)).trans c101
    have b1944 : 1 ≤ v1939.toInt ∧ v1939.toInt ≤ 240 := by omega
    clear p1940
    have hO1945 : FrO 14 a1 T I0 I1935 := hO102.st g1938 (by decide +kernel)
    have ov1946 := w1941.over (by rw [c1925]; omega)
    obtain ⟨v1947, c1948⟩ : ∃ v, I1935 a0 9 = v := ⟨_, rfl⟩
    have b1949 := iv15_9 hS1942.1 ta0 c1948
    obtain ⟨v1950, c1951⟩ : ∃ v, I1935 a0 13 = v := ⟨_, rfl⟩
    obtain ⟨v1952, c1953⟩ : ∃ v, I1935 a0 14 = v := ⟨_, rfl⟩
    (try rw [c1948] at ov1946)
    (try rw [c1951] at ov1946)
    (try rw [c1953] at ov1946)
    (try rw [c1925] at ov1946)
    (try rw [c1928] at ov1946)
    (try rw [c1930] at ov1946)
    refine tr_istore dX12_readTurner_121 (by decide) (by decide) ?_
    refine tr_aload_n dX12_readTurner_123 hl0 ?_
    refine tr_ldcwS dX12_readTurner_124 ld12_325 ?_
    refine q_iconst dX12_readTurner_127 (by decide) ?_
    intro v1954 h1955
    refine q_bipush dX12_readTurner_128 (by decide +kernel) ?_
    intro v1956 h1957
    refine q_callVi hE (M' := mX12_readPart) (as := [_, _, _]) dX12_readTurner_130 lk12_249 inX12_readPart seX12_readPart myX12_readPart (by decide) ⟨by decide, by decide⟩ rfl (kR15 hS1942.1 ta0) (Nat.le_of_ble_eq_true rfl) rfl rfl (by decide) (by decide) (k_X12_readPart hS1942.1 ta0 (by decide)) ?_
    rintro v1962 cn' K' N' I1958 R1959 L1960 ⟨rfl, rfl, rfl, rfl, g1961, p1963, w1964, -⟩
    have hS1965 := hS1942.tr g1961 (by decide +kernel) (by decide +kernel)
    have c1966 : I1958 a1 4 = v45 := (g1961.cell ta1 (by decide +kernel)).trans c1943
    have b1967 : 1 ≤ v1962.toInt ∧ v1962.toInt ≤ 8 := by omega
    clear p1963
    have hO1968 : FrO 14 a1 T I0 I1958 := hO1945.st g1961 (by decide +kernel)
    have ov1969 := w1964.over (by rw [c1948]; omega)
    obtain ⟨v1970, c1971⟩ : ∃ v, I1958 a0 9 = v := ⟨_, rfl⟩
    have b1972 := iv15_9 hS1965.1 ta0 c1971
    obtain ⟨v1973, c1974⟩ : ∃ v, I1958 a0 13 = v := ⟨_, rfl⟩
    obtain ⟨v1975, c1976⟩ : ∃ v, I1958 a0 14 = v := ⟨_, rfl⟩
    (try rw [c1971] at ov1969)
    (try rw [c1974] at ov1969)
    (try rw [c1976] at ov1969)
    (try rw [c1948] at ov1969)
    (try rw [c1951] at ov1969)
    (try rw [c1953] at ov1969)
    refine tr_istore dX12_readTurner_133 (by decide) (by decide) ?_
    refine tr_aload_n dX12_readTurner_135 hl0 ?_
    refine tr_ldcwS dX12_readTurner_136 ld12_327 ?_
    refine q_iconst dX12_readTurner_139 (by decide) ?_
    intro v1977 h1978
    refine q_bipush dX12_readTurner_140 (by decide +kernel) ?_
    intro v1979 h1980
    refine q_callVi hE (M' := mX12_readPart) (as := [_, _, _]) dX12_readTurner_142 lk12_249 inX12_readPart seX12_readPart myX12_readPart (by decide) ⟨by decide, by decide⟩ rfl (kR15 hS1965.1 ta0) (Nat.le_of_ble_eq_true rfl) rfl rfl (by decide) (by decide) (k_X12_readPart hS1965.1 ta0 (by decide)) ?_
    rintro v1985 cn' K' N' I1981 R1982 L1983 ⟨rfl, rfl, rfl, rfl, g1984, p1986, w1987, -⟩
    have hS1988 := hS1965.tr g1984 (by decide +kernel) (by decide +kernel)
    have c1989 : I1981 a1 4 = v45 := (g1984.cell ta1 (by decide +kernel)).trans c1966
    have b1990 : 1 ≤ v1985.toInt ∧ v1985.toInt ≤ 20 := by omega
    clear p1986
    have hO1991 : FrO 14 a1 T I0 I1981 := hO1968.st g1984 (by decide +kernel)
    have ov1992 := w1987.over (by rw [c1971]; omega)
    obtain ⟨v1993, c1994⟩ : ∃ v, I1981 a0 9 = v := ⟨_, rfl⟩
    have b1995 := iv15_9 hS1988.1 ta0 c1994
    obtain ⟨v1996, c1997⟩ : ∃ v, I1981 a0 13 = v := ⟨_, rfl⟩
    obtain ⟨v1998, c1999⟩ : ∃ v, I1981 a0 14 = v := ⟨_, rfl⟩
    (try rw [c1994] at ov1992)
    (try rw [c1997] at ov1992)
    (try rw [c1999] at ov1992)
    (try rw [c1971] at ov1992)
    (try rw [c1974] at ov1992)
    (try rw [c1976] at ov1992)
    refine tr_istore dX12_readTurner_145 (by decide) (by decide) ?_
    refine tr_aload_n dX12_readTurner_147 hl0 ?_
    refine tr_ldcS dX12_readTurner_148 ld12_253 ?_
    refine q_callVv hE (M' := mX12_needs) (as := [_]) dX12_readTurner_150 lk12_157 inX12_needs seX12_needs myX12_needs (by decide) ⟨by decide, by decide⟩ rfl (kR15 hS1988.1 ta0) (Nat.le_of_ble_eq_true rfl) rfl rfl (by decide) (by decide) (k_X12_needs hS1988.1 ta0 (by decide)) ?_
    rintro cn' K' N' I2000 R2001 L2002 ⟨rfl, rfl, rfl, rfl, g2003, w2005, -⟩
    have hS2006 := hS1988.tr g2003 (by decide +kernel) (by decide +kernel)
    have c2007 : I2000 a1 4 = v45 := (g2003.cell ta1 (by decide +kernel)).trans c1989
    have hO2008 : FrO 14 a1 T I0 I2000 := hO1991.st g2003 (by decide +kernel)
    have ov2009 := w2005.over (by rw [c1994]; omega)
    obtain ⟨v2010, c2011⟩ : ∃ v, I2000 a0 9 = v := ⟨_, rfl⟩
    have b2012 := iv15_9 hS2006.1 ta0 c2011
    obtain ⟨v2013, c2014⟩ : ∃ v, I2000 a0 13 = v := ⟨_, rfl⟩
    obtain ⟨v2015, c2016⟩ : ∃ v, I2000 a0 14 = v := ⟨_, rfl⟩
    (try rw [c2011] at ov2009)
    (try rw [c2014] at ov2009)
    (try rw [c2016] at ov2009)
    (try rw [c1994] at ov2009)
    (try rw [c1997] at ov2009)
    (try rw [c1999] at ov2009)
    refine q_iconst dX12_readTurner_153 (by decide) ?_
    intro v2017 h2018
    refine tr_istore dX12_readTurner_154 (by decide) (by decide) ?_
    refine q_iconst dX12_readTurner_156 (by decide) ?_
    intro v2019 h2020
    refine tr_istore dX12_readTurner_157 (by decide) (by decide) ?_
    refine tr_iload dX12_readTurner_159 rfl ?_
    refine q_if_eq 227 dX12_readTurner_161 (by decide) (fun h2021 => ?_) (fun h2021 => ?_)
    · skip
      exfalso; omega
    · skip
      refine tr_aload_n dX12_readTurner_164 hl0 ?_
      refine q_getI dX12_readTurner_165 fl12_99 (kR15 hS2006.1 ta0) c2011 ?_
      refine q_iconst dX12_readTurner_168 (by decide) ?_
      intro v2022 h2023
      refine q_icmp_eq 227 dX12_readTurner_169 (by decide) (fun h2024 => ?_) (fun h2024 => ?_)
      · skip
        refine tr_aload_n dX12_readTurner_227 hl0 ?_
        refine q_getI dX12_readTurner_228 fl12_99 (kR15 hS2006.1 ta0) c2011 ?_
        refine q_iconst dX12_readTurner_231 (by decide) ?_
        intro v2025 h2026
        refine q_icmp_ne 236 dX12_readTurner_232 (by decide) (fun h2027 => ?_) (fun h2027 => ?_)
        · skip
          exfalso; omega
        · skip
          have eF := hF.eq
          have eP := hP.eq
          obtain ⟨v2028, c2029⟩ : ∃ v, I2000 a0 10 = v := ⟨_, rfl⟩
          have b2030 := iv15_10 hS2006.1 ta0 c2029
          obtain ⟨v2031, c2032⟩ : ∃ v, I2000 a0 11 = v := ⟨_, rfl⟩
          obtain ⟨y2033, c2034⟩ : ∃ v, L2002 a0 15 = v := ⟨_, rfl⟩
          obtain ⟨v2035, c2036⟩ : ∃ v, I2000 a0 12 = v := ⟨_, rfl⟩
          obtain ⟨v2037, c2038⟩ : ∃ v, I2000 a0 8 = v := ⟨_, rfl⟩
          have b2039 := iv15_8 hS2006.1 ta0 c2038
          exact tr_vret hZ dX12_readTurner_235 rfl (by decide) (by decide) (hq _ _ _ ⟨hS2006, (fun dr hd => (Option.some.inj (d2.symm.trans hd)) ▸ hO2008), (Or.inr (⟨(by (try rw [w76]); first | done | with_reducible assumption | omega), (by (try rw [w76]); (try rw [c2011]); first | done | with_reducible assumption | omega), (by (try rw [w76]); (try rw [c2014]); first | done | with_reducible assumption | omega), (by (try rw [w76]); (try rw [c2016]); first | done | with_reducible assumption | omega), trivial⟩)), trivial⟩)
      · skip
        exfalso; omega
  · skip
    obtain ⟨v2040, c2041⟩ : ∃ v, I92 a0 9 = v := ⟨_, rfl⟩
    have b2042 := iv15_9 hS100.1 ta0 c2041
    rw [c2041] at p127
    obtain ⟨v2043, c2044⟩ : ∃ v, I92 a0 13 = v := ⟨_, rfl⟩
    rw [c2044] at p128
    obtain ⟨v2045, c2046⟩ : ∃ v, I92 a0 14 = v := ⟨_, rfl⟩
    rw [c2046] at p129
    replace hF := hF.neg (by omega)
    replace hP := hP.neg (by omega)
    replace hF := hF.pos (by omega)
    replace hP := hP.pos (by omega)
    refine tr_istore dX12_readTurner_101 (by decide) (by decide) ?_
    refine tr_aload_n dX12_readTurner_103 hl0 ?_
    refine tr_ldcwS dX12_readTurner_104 ld12_272 ?_
    refine tr_iload dX12_readTurner_107 rfl ?_
    refine q_iconst dX12_readTurner_109 (by decide) ?_
    intro v2047 h2048
    refine q_iaddE dX12_readTurner_110 (by intros; omega) ?_
    intro v2049 h2050
    refine tr_aload_n dX12_readTurner_111 hl0 ?_
    refine tr_getR dX12_readTurner_112 fl12_188 (kR15 hS100.1 ta0) d2 ?_
    refine q_getI dX12_readTurner_115 fl12_192 (kR14 hS100.1 ta1) ((hS100.cell ta1 (by decide +kernel)).trans c30) ?_
    refine q_callVi hE (M' := mX12_readPart) (as := [_, _, _]) dX12_readTurner_118 lk12_249 inX12_readPart seX12_readPart myX12_readPart (by decide) ⟨by decide, by decide⟩ rfl (kR15 hS100.1 ta0) (Nat.le_of_ble_eq_true rfl) rfl rfl (by decide) (by decide) (k_X12_readPart hS100.1 ta0 (by decide)) ?_
    rintro v2055 cn' K' N' I2051 R2052 L2053 ⟨rfl, rfl, rfl, rfl, g2054, p2056, w2057, -⟩
    have hS2058 := hS100.tr g2054 (by decide +kernel) (by decide +kernel)
    have c2059 : I2051 a1 4 = v45 := (g2054.cell ta1 (by decide +kernel)).trans c101
    have b2060 : 1 ≤ v2055.toInt ∧ v2055.toInt ≤ 240 := by omega
    clear p2056
    have hO2061 : FrO 14 a1 T I0 I2051 := hO102.st g2054 (by decide +kernel)
    have ov2062 := w2057.over (by rw [c2041]; omega)
    obtain ⟨v2063, c2064⟩ : ∃ v, I2051 a0 9 = v := ⟨_, rfl⟩
    have b2065 := iv15_9 hS2058.1 ta0 c2064
    obtain ⟨v2066, c2067⟩ : ∃ v, I2051 a0 13 = v := ⟨_, rfl⟩
    obtain ⟨v2068, c2069⟩ : ∃ v, I2051 a0 14 = v := ⟨_, rfl⟩
    (try rw [c2064] at ov2062)
    (try rw [c2067] at ov2062)
    (try rw [c2069] at ov2062)
    (try rw [c2041] at ov2062)
    (try rw [c2044] at ov2062)
    (try rw [c2046] at ov2062)
    refine tr_istore dX12_readTurner_121 (by decide) (by decide) ?_
    refine tr_aload_n dX12_readTurner_123 hl0 ?_
    refine tr_ldcwS dX12_readTurner_124 ld12_325 ?_
    refine q_iconst dX12_readTurner_127 (by decide) ?_
    intro v2070 h2071
    refine q_bipush dX12_readTurner_128 (by decide +kernel) ?_
    intro v2072 h2073
    refine q_callVi hE (M' := mX12_readPart) (as := [_, _, _]) dX12_readTurner_130 lk12_249 inX12_readPart seX12_readPart myX12_readPart (by decide) ⟨by decide, by decide⟩ rfl (kR15 hS2058.1 ta0) (Nat.le_of_ble_eq_true rfl) rfl rfl (by decide) (by decide) (k_X12_readPart hS2058.1 ta0 (by decide)) ?_
    rintro v2078 cn' K' N' I2074 R2075 L2076 ⟨rfl, rfl, rfl, rfl, g2077, p2079, w2080, -⟩
    have hS2081 := hS2058.tr g2077 (by decide +kernel) (by decide +kernel)
    have c2082 : I2074 a1 4 = v45 := (g2077.cell ta1 (by decide +kernel)).trans c2059
    have b2083 : 1 ≤ v2078.toInt ∧ v2078.toInt ≤ 8 := by omega
    clear p2079
    have hO2084 : FrO 14 a1 T I0 I2074 := hO2061.st g2077 (by decide +kernel)
    have ov2085 := w2080.over (by rw [c2064]; omega)
    obtain ⟨v2086, c2087⟩ : ∃ v, I2074 a0 9 = v := ⟨_, rfl⟩
    have b2088 := iv15_9 hS2081.1 ta0 c2087
    obtain ⟨v2089, c2090⟩ : ∃ v, I2074 a0 13 = v := ⟨_, rfl⟩
    obtain ⟨v2091, c2092⟩ : ∃ v, I2074 a0 14 = v := ⟨_, rfl⟩
    (try rw [c2087] at ov2085)
    (try rw [c2090] at ov2085)
    (try rw [c2092] at ov2085)
    (try rw [c2064] at ov2085)
    (try rw [c2067] at ov2085)
    (try rw [c2069] at ov2085)
    refine tr_istore dX12_readTurner_133 (by decide) (by decide) ?_
    refine tr_aload_n dX12_readTurner_135 hl0 ?_
    refine tr_ldcwS dX12_readTurner_136 ld12_327 ?_
    refine q_iconst dX12_readTurner_139 (by decide) ?_
    intro v2093 h2094
    refine q_bipush dX12_readTurner_140 (by decide +kernel) ?_
    intro v2095 h2096
    refine q_callVi hE (M' := mX12_readPart) (as := [_, _, _]) dX12_readTurner_142 lk12_249 inX12_readPart seX12_readPart myX12_readPart (by decide) ⟨by decide, by decide⟩ rfl (kR15 hS2081.1 ta0) (Nat.le_of_ble_eq_true rfl) rfl rfl (by decide) (by decide) (k_X12_readPart hS2081.1 ta0 (by decide)) ?_
    rintro v2101 cn' K' N' I2097 R2098 L2099 ⟨rfl, rfl, rfl, rfl, g2100, p2102, w2103, -⟩
    have hS2104 := hS2081.tr g2100 (by decide +kernel) (by decide +kernel)
    have c2105 : I2097 a1 4 = v45 := (g2100.cell ta1 (by decide +kernel)).trans c2082
    have b2106 : 1 ≤ v2101.toInt ∧ v2101.toInt ≤ 20 := by omega
    clear p2102
    have hO2107 : FrO 14 a1 T I0 I2097 := hO2084.st g2100 (by decide +kernel)
    have ov2108 := w2103.over (by rw [c2087]; omega)
    obtain ⟨v2109, c2110⟩ : ∃ v, I2097 a0 9 = v := ⟨_, rfl⟩
    have b2111 := iv15_9 hS2104.1 ta0 c2110
    obtain ⟨v2112, c2113⟩ : ∃ v, I2097 a0 13 = v := ⟨_, rfl⟩
    obtain ⟨v2114, c2115⟩ : ∃ v, I2097 a0 14 = v := ⟨_, rfl⟩
    (try rw [c2110] at ov2108)
    (try rw [c2113] at ov2108)
    (try rw [c2115] at ov2108)
    (try rw [c2087] at ov2108)
    (try rw [c2090] at ov2108)
    (try rw [c2092] at ov2108)
    refine tr_istore dX12_readTurner_145 (by decide) (by decide) ?_
    refine tr_aload_n dX12_readTurner_147 hl0 ?_
    refine tr_ldcS dX12_readTurner_148 ld12_253 ?_
    refine q_callVv hE (M' := mX12_needs) (as := [_]) dX12_readTurner_150 lk12_157 inX12_needs seX12_needs myX12_needs (by decide) ⟨by decide, by decide⟩ rfl (kR15 hS2104.1 ta0) (Nat.le_of_ble_eq_true rfl) rfl rfl (by decide) (by decide) (k_X12_needs hS2104.1 ta0 (by decide)) ?_
    rintro cn' K' N' I2116 R2117 L2118 ⟨rfl, rfl, rfl, rfl, g2119, w2121, -⟩
    have hS2122 := hS2104.tr g2119 (by decide +kernel) (by decide +kernel)
    have c2123 : I2116 a1 4 = v45 := (g2119.cell ta1 (by decide +kernel)).trans c2105
    have hO2124 : FrO 14 a1 T I0 I2116 := hO2107.st g2119 (by decide +kernel)
    have ov2125 := w2121.over (by rw [c2110]; omega)
    obtain ⟨v2126, c2127⟩ : ∃ v, I2116 a0 9 = v := ⟨_, rfl⟩
    have b2128 := iv15_9 hS2122.1 ta0 c2127
    obtain ⟨v2129, c2130⟩ : ∃ v, I2116 a0 13 = v := ⟨_, rfl⟩
    obtain ⟨v2131, c2132⟩ : ∃ v, I2116 a0 14 = v := ⟨_, rfl⟩
    (try rw [c2127] at ov2125)
    (try rw [c2130] at ov2125)
    (try rw [c2132] at ov2125)
    (try rw [c2110] at ov2125)
    (try rw [c2113] at ov2125)
    (try rw [c2115] at ov2125)
    refine q_iconst dX12_readTurner_153 (by decide) ?_
    intro v2133 h2134
    refine tr_istore dX12_readTurner_154 (by decide) (by decide) ?_
    refine q_iconst dX12_readTurner_156 (by decide) ?_
    intro v2135 h2136
    refine tr_istore dX12_readTurner_157 (by decide) (by decide) ?_
    refine tr_iload dX12_readTurner_159 rfl ?_
    refine q_if_eq 227 dX12_readTurner_161 (by decide) (fun h2137 => ?_) (fun h2137 => ?_)
    · skip
      exfalso; omega
    · skip
      refine tr_aload_n dX12_readTurner_164 hl0 ?_
      refine q_getI dX12_readTurner_165 fl12_99 (kR15 hS2122.1 ta0) c2127 ?_
      refine q_iconst dX12_readTurner_168 (by decide) ?_
      intro v2138 h2139
      refine q_icmp_eq 227 dX12_readTurner_169 (by decide) (fun h2140 => ?_) (fun h2140 => ?_)
      · skip
        refine tr_aload_n dX12_readTurner_227 hl0 ?_
        refine q_getI dX12_readTurner_228 fl12_99 (kR15 hS2122.1 ta0) c2127 ?_
        refine q_iconst dX12_readTurner_231 (by decide) ?_
        intro v2141 h2142
        refine q_icmp_ne 236 dX12_readTurner_232 (by decide) (fun h2143 => ?_) (fun h2143 => ?_)
        · skip
          exfalso; omega
        · skip
          have eF := hF.eq
          have eP := hP.eq
          obtain ⟨v2144, c2145⟩ : ∃ v, I2116 a0 10 = v := ⟨_, rfl⟩
          have b2146 := iv15_10 hS2122.1 ta0 c2145
          obtain ⟨v2147, c2148⟩ : ∃ v, I2116 a0 11 = v := ⟨_, rfl⟩
          obtain ⟨y2149, c2150⟩ : ∃ v, L2118 a0 15 = v := ⟨_, rfl⟩
          obtain ⟨v2151, c2152⟩ : ∃ v, I2116 a0 12 = v := ⟨_, rfl⟩
          obtain ⟨v2153, c2154⟩ : ∃ v, I2116 a0 8 = v := ⟨_, rfl⟩
          have b2155 := iv15_8 hS2122.1 ta0 c2154
          exact tr_vret hZ dX12_readTurner_235 rfl (by decide) (by decide) (hq _ _ _ ⟨hS2122, (fun dr hd => (Option.some.inj (d2.symm.trans hd)) ▸ hO2124), (Or.inr (⟨(by (try rw [w76]); first | done | with_reducible assumption | omega), (by (try rw [w76]); (try rw [c2127]); first | done | with_reducible assumption | omega), (by (try rw [w76]); (try rw [c2130]); first | done | with_reducible assumption | omega), (by (try rw [w76]); (try rw [c2132]); first | done | with_reducible assumption | omega), trivial⟩)), trivial⟩)
      · skip
        exfalso; omega
  · skip
    obtain ⟨v2156, c2157⟩ : ∃ v, I92 a0 9 = v := ⟨_, rfl⟩
    have b2158 := iv15_9 hS100.1 ta0 c2157
    rw [c2157] at p135
    obtain ⟨v2159, c2160⟩ : ∃ v, I92 a0 13 = v := ⟨_, rfl⟩
    rw [c2160] at p136
    obtain ⟨v2161, c2162⟩ : ∃ v, I92 a0 14 = v := ⟨_, rfl⟩
    rw [c2162] at p137
    replace hF := hF.neg (by omega)
    replace hP := hP.neg (by omega)
    replace hF := hF.neg (by omega)
    replace hP := hP.neg (by omega)
    replace hF := hF.pos (by omega)
    replace hP := hP.pos (by omega)
    refine tr_istore dX12_readTurner_101 (by decide) (by decide) ?_
    refine tr_aload_n dX12_readTurner_103 hl0 ?_
    refine tr_ldcwS dX12_readTurner_104 ld12_272 ?_
    refine tr_iload dX12_readTurner_107 rfl ?_
    refine q_iconst dX12_readTurner_109 (by decide) ?_
    intro v2163 h2164
    refine q_iaddE dX12_readTurner_110 (by intros; omega) ?_
    intro v2165 h2166
    refine tr_aload_n dX12_readTurner_111 hl0 ?_
    refine tr_getR dX12_readTurner_112 fl12_188 (kR15 hS100.1 ta0) d2 ?_
    refine q_getI dX12_readTurner_115 fl12_192 (kR14 hS100.1 ta1) ((hS100.cell ta1 (by decide +kernel)).trans c30) ?_
    refine q_callVi hE (M' := mX12_readPart) (as := [_, _, _]) dX12_readTurner_118 lk12_249 inX12_readPart seX12_readPart myX12_readPart (by decide) ⟨by decide, by decide⟩ rfl (kR15 hS100.1 ta0) (Nat.le_of_ble_eq_true rfl) rfl rfl (by decide) (by decide) (k_X12_readPart hS100.1 ta0 (by decide)) ?_
    rintro v2171 cn' K' N' I2167 R2168 L2169 ⟨rfl, rfl, rfl, rfl, g2170, p2172, w2173, -⟩
    have hS2174 := hS100.tr g2170 (by decide +kernel) (by decide +kernel)
    have c2175 : I2167 a1 4 = v45 := (g2170.cell ta1 (by decide +kernel)).trans c101
    have b2176 : 1 ≤ v2171.toInt ∧ v2171.toInt ≤ 240 := by omega
    clear p2172
    have hO2177 : FrO 14 a1 T I0 I2167 := hO102.st g2170 (by decide +kernel)
    have ov2178 := w2173.over (by rw [c2157]; omega)
    obtain ⟨v2179, c2180⟩ : ∃ v, I2167 a0 9 = v := ⟨_, rfl⟩
    have b2181 := iv15_9 hS2174.1 ta0 c2180
    obtain ⟨v2182, c2183⟩ : ∃ v, I2167 a0 13 = v := ⟨_, rfl⟩
    obtain ⟨v2184, c2185⟩ : ∃ v, I2167 a0 14 = v := ⟨_, rfl⟩
    (try rw [c2180] at ov2178)
    (try rw [c2183] at ov2178)
    (try rw [c2185] at ov2178)
    (try rw [c2157] at ov2178)
    (try rw [c2160] at ov2178)
    (try rw [c2162] at ov2178)
    refine tr_istore dX12_readTurner_121 (by decide) (by decide) ?_
    refine tr_aload_n dX12_readTurner_123 hl0 ?_
    refine tr_ldcwS dX12_readTurner_124 ld12_325 ?_
    refine q_iconst dX12_readTurner_127 (by decide) ?_
    intro v2186 h2187
    refine q_bipush dX12_readTurner_128 (by decide +kernel) ?_
    intro v2188 h2189
    refine q_callVi hE (M' := mX12_readPart) (as := [_, _, _]) dX12_readTurner_130 lk12_249 inX12_readPart seX12_readPart myX12_readPart (by decide) ⟨by decide, by decide⟩ rfl (kR15 hS2174.1 ta0) (Nat.le_of_ble_eq_true rfl) rfl rfl (by decide) (by decide) (k_X12_readPart hS2174.1 ta0 (by decide)) ?_
    rintro v2194 cn' K' N' I2190 R2191 L2192 ⟨rfl, rfl, rfl, rfl, g2193, p2195, w2196, -⟩
    have hS2197 := hS2174.tr g2193 (by decide +kernel) (by decide +kernel)
    have c2198 : I2190 a1 4 = v45 := (g2193.cell ta1 (by decide +kernel)).trans c2175
    have b2199 : 1 ≤ v2194.toInt ∧ v2194.toInt ≤ 8 := by omega
    clear p2195
    have hO2200 : FrO 14 a1 T I0 I2190 := hO2177.st g2193 (by decide +kernel)
    have ov2201 := w2196.over (by rw [c2180]; omega)
    obtain ⟨v2202, c2203⟩ : ∃ v, I2190 a0 9 = v := ⟨_, rfl⟩
    have b2204 := iv15_9 hS2197.1 ta0 c2203
    obtain ⟨v2205, c2206⟩ : ∃ v, I2190 a0 13 = v := ⟨_, rfl⟩
    obtain ⟨v2207, c2208⟩ : ∃ v, I2190 a0 14 = v := ⟨_, rfl⟩
    (try rw [c2203] at ov2201)
    (try rw [c2206] at ov2201)
    (try rw [c2208] at ov2201)
    (try rw [c2180] at ov2201)
    (try rw [c2183] at ov2201)
    (try rw [c2185] at ov2201)
    refine tr_istore dX12_readTurner_133 (by decide) (by decide) ?_
    refine tr_aload_n dX12_readTurner_135 hl0 ?_
    refine tr_ldcwS dX12_readTurner_136 ld12_327 ?_
    refine q_iconst dX12_readTurner_139 (by decide) ?_
    intro v2209 h2210
    refine q_bipush dX12_readTurner_140 (by decide +kernel) ?_
    intro v2211 h2212
    refine q_callVi hE (M' := mX12_readPart) (as := [_, _, _]) dX12_readTurner_142 lk12_249 inX12_readPart seX12_readPart myX12_readPart (by decide) ⟨by decide, by decide⟩ rfl (kR15 hS2197.1 ta0) (Nat.le_of_ble_eq_true rfl) rfl rfl (by decide) (by decide) (k_X12_readPart hS2197.1 ta0 (by decide)) ?_
    rintro v2217 cn' K' N' I2213 R2214 L2215 ⟨rfl, rfl, rfl, rfl, g2216, p2218, w2219, -⟩
    have hS2220 := hS2197.tr g2216 (by decide +kernel) (by decide +kernel)
    have c2221 : I2213 a1 4 = v45 := (g2216.cell ta1 (by decide +kernel)).trans c2198
    have b2222 : 1 ≤ v2217.toInt ∧ v2217.toInt ≤ 20 := by omega
    clear p2218
    have hO2223 : FrO 14 a1 T I0 I2213 := hO2200.st g2216 (by decide +kernel)
    have ov2224 := w2219.over (by rw [c2203]; omega)
    obtain ⟨v2225, c2226⟩ : ∃ v, I2213 a0 9 = v := ⟨_, rfl⟩
    have b2227 := iv15_9 hS2220.1 ta0 c2226
    obtain ⟨v2228, c2229⟩ : ∃ v, I2213 a0 13 = v := ⟨_, rfl⟩
    obtain ⟨v2230, c2231⟩ : ∃ v, I2213 a0 14 = v := ⟨_, rfl⟩
    (try rw [c2226] at ov2224)
    (try rw [c2229] at ov2224)
    (try rw [c2231] at ov2224)
    (try rw [c2203] at ov2224)
    (try rw [c2206] at ov2224)
    (try rw [c2208] at ov2224)
    refine tr_istore dX12_readTurner_145 (by decide) (by decide) ?_
    refine tr_aload_n dX12_readTurner_147 hl0 ?_
    refine tr_ldcS dX12_readTurner_148 ld12_253 ?_
    refine q_callVv hE (M' := mX12_needs) (as := [_]) dX12_readTurner_150 lk12_157 inX12_needs seX12_needs myX12_needs (by decide) ⟨by decide, by decide⟩ rfl (kR15 hS2220.1 ta0) (Nat.le_of_ble_eq_true rfl) rfl rfl (by decide) (by decide) (k_X12_needs hS2220.1 ta0 (by decide)) ?_
    rintro cn' K' N' I2232 R2233 L2234 ⟨rfl, rfl, rfl, rfl, g2235, w2237, -⟩
    have hS2238 := hS2220.tr g2235 (by decide +kernel) (by decide +kernel)
    have c2239 : I2232 a1 4 = v45 := (g2235.cell ta1 (by decide +kernel)).trans c2221
    have hO2240 : FrO 14 a1 T I0 I2232 := hO2223.st g2235 (by decide +kernel)
    have ov2241 := w2237.over (by rw [c2226]; omega)
    obtain ⟨v2242, c2243⟩ : ∃ v, I2232 a0 9 = v := ⟨_, rfl⟩
    have b2244 := iv15_9 hS2238.1 ta0 c2243
    obtain ⟨v2245, c2246⟩ : ∃ v, I2232 a0 13 = v := ⟨_, rfl⟩
    obtain ⟨v2247, c2248⟩ : ∃ v, I2232 a0 14 = v := ⟨_, rfl⟩
    (try rw [c2243] at ov2241)
    (try rw [c2246] at ov2241)
    (try rw [c2248] at ov2241)
    (try rw [c2226] at ov2241)
    (try rw [c2229] at ov2241)
    (try rw [c2231] at ov2241)
    refine q_iconst dX12_readTurner_153 (by decide) ?_
    intro v2249 h2250
    refine tr_istore dX12_readTurner_154 (by decide) (by decide) ?_
    refine q_iconst dX12_readTurner_156 (by decide) ?_
    intro v2251 h2252
    refine tr_istore dX12_readTurner_157 (by decide) (by decide) ?_
    refine tr_iload dX12_readTurner_159 rfl ?_
    refine q_if_eq 227 dX12_readTurner_161 (by decide) (fun h2253 => ?_) (fun h2253 => ?_)
    · skip
      exfalso; omega
    · skip
      refine tr_aload_n dX12_readTurner_164 hl0 ?_
      refine q_getI dX12_readTurner_165 fl12_99 (kR15 hS2238.1 ta0) c2243 ?_
      refine q_iconst dX12_readTurner_168 (by decide) ?_
      intro v2254 h2255
      refine q_icmp_eq 227 dX12_readTurner_169 (by decide) (fun h2256 => ?_) (fun h2256 => ?_)
      · skip
        refine tr_aload_n dX12_readTurner_227 hl0 ?_
        refine q_getI dX12_readTurner_228 fl12_99 (kR15 hS2238.1 ta0) c2243 ?_
        refine q_iconst dX12_readTurner_231 (by decide) ?_
        intro v2257 h2258
        refine q_icmp_ne 236 dX12_readTurner_232 (by decide) (fun h2259 => ?_) (fun h2259 => ?_)
        · skip
          exfalso; omega
        · skip
          have eF := hF.eq
          have eP := hP.eq
          obtain ⟨v2260, c2261⟩ : ∃ v, I2232 a0 10 = v := ⟨_, rfl⟩
          have b2262 := iv15_10 hS2238.1 ta0 c2261
          obtain ⟨v2263, c2264⟩ : ∃ v, I2232 a0 11 = v := ⟨_, rfl⟩
          obtain ⟨y2265, c2266⟩ : ∃ v, L2234 a0 15 = v := ⟨_, rfl⟩
          obtain ⟨v2267, c2268⟩ : ∃ v, I2232 a0 12 = v := ⟨_, rfl⟩
          obtain ⟨v2269, c2270⟩ : ∃ v, I2232 a0 8 = v := ⟨_, rfl⟩
          have b2271 := iv15_8 hS2238.1 ta0 c2270
          exact tr_vret hZ dX12_readTurner_235 rfl (by decide) (by decide) (hq _ _ _ ⟨hS2238, (fun dr hd => (Option.some.inj (d2.symm.trans hd)) ▸ hO2240), (Or.inr (⟨(by (try rw [w76]); first | done | with_reducible assumption | omega), (by (try rw [w76]); (try rw [c2243]); first | done | with_reducible assumption | omega), (by (try rw [w76]); (try rw [c2246]); first | done | with_reducible assumption | omega), (by (try rw [w76]); (try rw [c2248]); first | done | with_reducible assumption | omega), trivial⟩)), trivial⟩)
      · skip
        exfalso; omega
def wik_X12_readTurner : List Nat := [900, 903, 968, 969, 970, 971, 972, 973, 974, 4095, 4159, 4223, 4287, 4351, 4415, 4799, 4863]
def wrk_X12_readTurner : List Nat := []
def wlk_X12_readTurner : List Nat := [975, 4735]
set_option maxHeartbeats 4000000 in
theorem fk_X12_readTurner {l : Launch} {T : Nat → Nat} {cn : Nat} {K N : Nat → Nat} {I0 : cz_I} {R0 : cz_R} {L0 : cz_L} (hW0 : Wf T cn K N I0 R0 0) (gB : cz_B) (gs : Int) (gQ : Nat → Int) {a0 : Nat} (ta0 : T a0 = 15) (hT : ∀ t, R0 a0 5 = some t → Tx I0 t gB) (hN : ∀ b, R0 a0 4 = some b → NmM I0 R0 L0 b gQ) (pre0 : (I0 a0 9).toInt = (tkM gB gs)) (pre1 : (I0 a0 9).toInt ≤ 4) (pre2 : (I0 a0 10).toInt = (tkS gB gs)) (pre3 : (I0 a0 11).toInt = (tkG gB gs)) (pre4 : (AtW ((tkK gB gs)) ((L0 a0 15).toInt) ((tkW gB gs)))) (pre5 : (AtV ((tkK gB gs)) ((I0 a0 12).toInt) ((tkV gB gs)))) (pre6 : (AtN ((tkK gB gs)) ((I0 a0 8).toInt) ((tkN gB gs)))) (pre7 : (I0 a0 7).toInt = (gB.2)) (pre8 : ∀ b1, R0 a0 4 = some b1 → (I0 b1 0).toInt = (gQ 0)) (pre9 : ∀ b1, R0 a0 4 = some b1 → (I0 b1 1).toInt = (gQ 1)) (pre10 : ∀ b1, R0 a0 4 = some b1 → (I0 b1 2).toInt = (gQ 2)) (pre11 : ∀ b1, R0 a0 4 = some b1 → (I0 b1 3).toInt = (gQ 3)) (pre12 : ∀ b1, R0 a0 4 = some b1 → (I0 b1 4).toInt = (gQ 4)) (pre13 : ∀ b1, R0 a0 4 = some b1 → (I0 b1 5).toInt = (gQ 5)) (pre14 : ∀ b1, R0 a0 4 = some b1 → (I0 b1 6).toInt = (gQ 6)) (pre15 : ∀ b1, R0 a0 4 = some b1 → (I0 b1 9).toInt = (gQ 8)) (pre16 : (Q7M ((gQ 0)) ((gQ 7)))) (pre17 : (tkK gB gs) = 1) (pre18 : (srt gB gs) = 7) (nn4 : ∃ b, R0 a0 4 = some b) : ConE l mX12_readTurner [.ref a0] cn K N I0 R0 L0 (ca_v (fun cn' K' N' I' R' L' => cn = cn' ∧ K = K' ∧ N = N' ∧ R0 = R' ∧ St T cn K N 0 wik_X12_readTurner wrk_X12_readTurner I0 R0 I' R0 ∧ (∀ dr, R0 a0 4 = some dr → FrO 14 dr T I0 I') ∧ ((((lnF gB gQ gs) = 0) ∧ (∀ b1, R0 a0 4 = some b1 → (I' b1 0).toInt = (lnQ gB gQ gs 0)) ∧ (∀ b1, R0 a0 4 = some b1 → (I' b1 1).toInt = (lnQ gB gQ gs 1)) ∧ (∀ b1, R0 a0 4 = some b1 → (I' b1 2).toInt = (lnQ gB gQ gs 2)) ∧ (∀ b1, R0 a0 4 = some b1 → (I' b1 3).toInt = (lnQ gB gQ gs 3)) ∧ (∀ b1, R0 a0 4 = some b1 → (I' b1 4).toInt = (lnQ gB gQ gs 4)) ∧ (∀ b1, R0 a0 4 = some b1 → (I' b1 5).toInt = (lnQ gB gQ gs 5)) ∧ (∀ b1, R0 a0 4 = some b1 → (I' b1 6).toInt = (lnQ gB gQ gs 6)) ∧ (∀ b1, R0 a0 4 = some b1 → (I' b1 9).toInt = (lnQ gB gQ gs 8)) ∧ ((I' a0 13).toInt = (I0 a0 13).toInt) ∧ ((I' a0 9).toInt = (tkM gB (lnS gB gQ gs))) ∧ ((I' a0 9).toInt ≤ 4) ∧ ((I' a0 10).toInt = (tkS gB (lnS gB gQ gs))) ∧ ((I' a0 11).toInt = (tkG gB (lnS gB gQ gs))) ∧ ((AtW ((tkK gB (lnS gB gQ gs))) ((L' a0 15).toInt) ((tkW gB (lnS gB gQ gs))))) ∧ ((AtV ((tkK gB (lnS gB gQ gs))) ((I' a0 12).toInt) ((tkV gB (lnS gB gQ gs))))) ∧ ((AtN ((tkK gB (lnS gB gQ gs))) ((I' a0 8).toInt) ((tkN gB (lnS gB gQ gs))))) ∧ LgS T wlk_X12_readTurner L0 L' ∧ (∀ b, R0 a0 4 = some b → NmM I' R0 L' b (lnQ gB gQ gs)) ∧ True) ∨ (((lnF gB gQ gs) ≠ 0) ∧ ((I' a0 9).toInt = 5) ∧ ((I' a0 13).toInt = (lnF gB gQ gs)) ∧ ((I' a0 14).toInt = (lnP gB gQ gs)) ∧ True)) ∧ True)) := by
  refine ConE.of (by decide +kernel) rfl (Nat.le_of_ble_eq_true rfl) rfl (fun X hX hZ hE => ?_)
  subst hX
  have hS0 : St T cn K N 0 wik_X12_readTurner wrk_X12_readTurner I0 R0 I0 R0 := St.rf0 hW0
  have hL0 : LgS T wlk_X12_readTurner L0 L0 := LgS.rf0
  obtain ⟨a1, d2⟩ := nn4
  have ta1 : T a1 = 14 := hW0.rsN ta0 rfl d2
  obtain ⟨v3, c4⟩ : ∃ v, I0 a0 9 = v := ⟨_, rfl⟩
  have b5 := iv15_9 hS0.1 ta0 c4
  have p6 := pre0
  rw [c4] at p6
  have p7 := pre1
  rw [c4] at p7
  obtain ⟨v8, c9⟩ : ∃ v, I0 a0 10 = v := ⟨_, rfl⟩
  have b10 := iv15_10 hS0.1 ta0 c9
  have p11 := pre2
  rw [c9] at p11
  obtain ⟨v12, c13⟩ : ∃ v, I0 a0 11 = v := ⟨_, rfl⟩
  have p14 := pre3
  rw [c13] at p14
  obtain ⟨y15, c16⟩ : ∃ v, L0 a0 15 = v := ⟨_, rfl⟩
  have p17 := pre4
  rw [c16] at p17
  obtain ⟨v18, c19⟩ : ∃ v, I0 a0 12 = v := ⟨_, rfl⟩
  have p20 := pre5
  rw [c19] at p20
  obtain ⟨v21, c22⟩ : ∃ v, I0 a0 8 = v := ⟨_, rfl⟩
  have b23 := iv15_8 hS0.1 ta0 c22
  have p24 := pre6
  rw [c22] at p24
  obtain ⟨v25, c26⟩ : ∃ v, I0 a0 7 = v := ⟨_, rfl⟩
  have b27 := iv15_7 hW0 ta0 c26
  have p28 := pre7
  rw [c26] at p28
  obtain ⟨v29, c30⟩ : ∃ v, I0 a1 0 = v := ⟨_, rfl⟩
  have b31 := iv14_0 hW0 ta1 c30
  have p32 := pre8 _ d2
  rw [c30] at p32
  obtain ⟨v33, c34⟩ : ∃ v, I0 a1 1 = v := ⟨_, rfl⟩
  have b35 := iv14_1 hW0 ta1 c34
  have p36 := pre9 _ d2
  rw [c34] at p36
  obtain ⟨v37, c38⟩ : ∃ v, I0 a1 2 = v := ⟨_, rfl⟩
  have b39 := iv14_2 hW0 ta1 c38
  have p40 := pre10 _ d2
  rw [c38] at p40
  obtain ⟨v41, c42⟩ : ∃ v, I0 a1 3 = v := ⟨_, rfl⟩
  have b43 := iv14_3 hW0 ta1 c42
  have p44 := pre11 _ d2
  rw [c42] at p44
  obtain ⟨v45, c46⟩ : ∃ v, I0 a1 4 = v := ⟨_, rfl⟩
  have b47 := iv14_4 hS0.1 ta1 c46
  have p48 := pre12 _ d2
  rw [c46] at p48
  obtain ⟨v49, c50⟩ : ∃ v, I0 a1 5 = v := ⟨_, rfl⟩
  have b51 := iv14_5 hW0 ta1 c50
  have p52 := pre13 _ d2
  rw [c50] at p52
  obtain ⟨v53, c54⟩ : ∃ v, I0 a1 6 = v := ⟨_, rfl⟩
  have b55 := iv14_6 hW0 ta1 c54
  have p56 := pre14 _ d2
  rw [c54] at p56
  obtain ⟨v57, c58⟩ : ∃ v, I0 a1 9 = v := ⟨_, rfl⟩
  have b59 := iv14_9 hW0 ta1 c58
  have p60 := pre15 _ d2
  rw [c58] at p60
  have p61 := pre16
  have p62 := pre17
  have p63 := pre18
  obtain ⟨v64, c65⟩ : ∃ v, I0 a0 13 = v := ⟨_, rfl⟩
  have hM0 := hN _ d2
  have hO0 : FrO 14 a1 T I0 I0 := FrO.rf
  have hF := lnF_ch gB gQ gs
  have hP := lnP_ch gB gQ gs
  replace hF := hF.neg (by omega)
  replace hP := hP.neg (by omega)
  replace hF := hF.neg (by omega)
  replace hP := hP.neg (by omega)
  refine tr_aload_n dX12_readTurner_0 rfl ?_
  refine tr_aload_n dX12_readTurner_1 rfl ?_
  refine tr_getR dX12_readTurner_2 fl12_188 (kR15 hS0.1 ta0) d2 ?_
  refine q_getI dX12_readTurner_5 fl12_315 (kR14 hS0.1 ta1) c46 ?_
  refine q_iconst dX12_readTurner_8 (by decide) ?_
  intro v66 h67
  refine q_callVv hE (M' := mX12_begins) (as := [_, _]) dX12_readTurner_9 lk12_268 inX12_begins seX12_begins myX12_begins (by decide) ⟨by decide, by decide⟩ rfl (kR15 hS0.1 ta0) (Nat.le_of_ble_eq_true rfl) rfl rfl (by decide) (by decide) (fk_X12_begins hS0.1 (gB) (gs) (gQ) ta0 (TxA.kp hT hS0 ta0 rfl rfl rfl (by decide +kernel) (by decide +kernel)) (by (try rw [c4]); first | done | with_reducible assumption | omega) (by (try rw [c4]); first | done | with_reducible assumption | omega) (by (try rw [c9]); first | done | with_reducible assumption | omega) (by (try rw [c13]); first | done | with_reducible assumption | omega) (by (try rw [c16]); first | done | assumption) (by (try rw [c19]); first | done | assumption) (by (try rw [c22]); first | done | assumption) (by (try rw [c26]); first | done | with_reducible assumption | omega) (fun q0 z0 => by obtain rfl := Option.some.inj ((d2).symm.trans z0); (try rw [c30]); first | done | with_reducible assumption | omega) (by first | done | with_reducible assumption | omega) ⟨_, d2⟩) ?_
  rintro cn' K' N' I68 R69 L70 ⟨rfl, rfl, rfl, rfl, g71, dj74, -⟩
  have hM75 : NmM I68 R0 L0 a1 gQ := NmM.kpS hM0 g71 hS0.1 ta1 (by decide +kernel) (by decide +kernel)
  have hS76 := hS0.tr g71 (by decide +kernel) (by decide +kernel)
  have c77 : I68 a1 4 = v45 := (g71.cell ta1 (by decide +kernel)).trans c46
  have hO78 : FrO 14 a1 T I0 I68 := hO0.st g71 (by decide +kernel)
  rcases dj74 with ⟨p79, p80, p81, p82, p83, p84, p85, p86, p87, p88, gl89, -⟩ | ⟨p90, p91, p92, p93, -⟩ | ⟨p94, p95, p96, p97, p98, -⟩
  · skip
    have hL99 := hL0.tr gl89 (by decide +kernel)
    have hM100 : NmM I68 R0 L70 a1 gQ := NmM.kpL hM75 gl89 hS76.1 ta1 (by decide +kernel)
    obtain ⟨v101, c102⟩ : ∃ v, I68 a0 13 = v := ⟨_, rfl⟩
    rw [c102] at p81
    rw [c65] at p81
    obtain ⟨v103, c104⟩ : ∃ v, I68 a0 9 = v := ⟨_, rfl⟩
    have b105 := iv15_9 hS76.1 ta0 c104
    rw [c104] at p82
    rw [c104] at p83
    obtain ⟨v106, c107⟩ : ∃ v, I68 a0 10 = v := ⟨_, rfl⟩
    have b108 := iv15_10 hS76.1 ta0 c107
    rw [c107] at p84
    obtain ⟨v109, c110⟩ : ∃ v, I68 a0 11 = v := ⟨_, rfl⟩
    rw [c110] at p85
    obtain ⟨y111, c112⟩ : ∃ v, L70 a0 15 = v := ⟨_, rfl⟩
    rw [c112] at p86
    obtain ⟨v113, c114⟩ : ∃ v, I68 a0 12 = v := ⟨_, rfl⟩
    rw [c114] at p87
    obtain ⟨v115, c116⟩ : ∃ v, I68 a0 8 = v := ⟨_, rfl⟩
    have b117 := iv15_8 hS76.1 ta0 c116
    rw [c116] at p88
    have p118 := p61
    unfold Q7M at p118
    replace hF := hF.neg (by omega)
    replace hP := hP.neg (by omega)
    replace hF := hF.neg (by omega)
    replace hP := hP.neg (by omega)
    clear p118
    obtain ⟨w119, w120, w121, w122, w123, w124, w125, w126, w127, w128, w129, w130⟩ := lnl_7 (B := gB) (Q := gQ) (s := gs) (by omega)
    replace hF := hF.to w119 (tuF_cx gB gQ (tkN gB gs))
    replace hP := hP.to w120 (tuP_cx gB gQ (tkN gB gs))
    refine tr_aload_n dX12_readTurner_12 rfl ?_
    refine q_callVl hE (M' := mX12_readFresh) (as := []) dX12_readTurner_13 lk12_285 inX12_readFresh seX12_readFresh myX12_readFresh (by decide) ⟨by decide, by decide⟩ rfl (kR15 hS76.1 ta0) (Nat.le_of_ble_eq_true rfl) rfl rfl (by decide) (by decide) (fk_X12_readFresh hS76.1 (gB) ((tkN gB gs)) (gQ) ta0 (TxA.kp hT hS76 ta0 rfl rfl rfl (by decide +kernel) (by decide +kernel)) (fun b hb => (Option.some.inj (d2.symm.trans hb)) ▸ hM100) (by (try rw [c104]); first | done | with_reducible assumption | omega) (by (try rw [c104]); first | done | with_reducible assumption | omega) (by (try rw [c107]); first | done | with_reducible assumption | omega) (by (try rw [c110]); first | done | with_reducible assumption | omega) (by (try rw [c112]); first | done | assumption) (by (try rw [c114]); first | done | assumption) (by (try rw [c116]); first | done | assumption) (by (try rw [((hS76.cell ta0 (by decide +kernel)).trans c26)]); first | done | with_reducible assumption | omega) (fun q0 z0 => by obtain rfl := Option.some.inj ((d2).symm.trans z0); (try rw [((hS76.cell ta1 (by decide +kernel)).trans c42)]); first | done | with_reducible assumption | omega) (fun q0 z0 => by obtain rfl := Option.some.inj ((d2).symm.trans z0); (try rw [c77]); first | done | with_reducible assumption | omega) ⟨_, d2⟩) ?_
    rintro y136 cn' K' N' I131 R132 L133 ⟨rfl, rfl, rfl, rfl, g134, dj137, -⟩
    have hM138 : NmM I131 R0 L70 a1 gQ := NmM.kpS hM100 g134 hS76.1 ta1 (by decide +kernel) (by decide +kernel)
    have hS139 := hS76.tr g134 (by decide +kernel) (by decide +kernel)
    have c140 : I131 a1 4 = v45 := (g134.cell ta1 (by decide +kernel)).trans c77
    have hO141 : FrO 14 a1 T I0 I131 := hO78.st g134 (by decide +kernel)
    rcases dj137 with ⟨p142, p143, p144, p145, p146, p147, p148, p149, p150, p151, p152, p153, p154, gl155, -⟩ | ⟨p156, p157, p158, p159, -⟩ | ⟨p160, p161, p162, p163, p164, -⟩
    · skip
      have hL165 := hL99.tr gl155 (by decide +kernel)
      have hM166 : NmM I131 R0 L133 a1 gQ := NmM.kpL hM138 gl155 hS139.1 ta1 (by decide +kernel)
      obtain ⟨v167, c168⟩ : ∃ v, I131 a0 13 = v := ⟨_, rfl⟩
      rw [c168] at p147
      rw [c102] at p147
      obtain ⟨v169, c170⟩ : ∃ v, I131 a0 9 = v := ⟨_, rfl⟩
      have b171 := iv15_9 hS139.1 ta0 c170
      rw [c170] at p148
      rw [c170] at p149
      obtain ⟨v172, c173⟩ : ∃ v, I131 a0 10 = v := ⟨_, rfl⟩
      have b174 := iv15_10 hS139.1 ta0 c173
      rw [c173] at p150
      obtain ⟨v175, c176⟩ : ∃ v, I131 a0 11 = v := ⟨_, rfl⟩
      rw [c176] at p151
      obtain ⟨y177, c178⟩ : ∃ v, L133 a0 15 = v := ⟨_, rfl⟩
      rw [c178] at p152
      obtain ⟨v179, c180⟩ : ∃ v, I131 a0 12 = v := ⟨_, rfl⟩
      rw [c180] at p153
      obtain ⟨v181, c182⟩ : ∃ v, I131 a0 8 = v := ⟨_, rfl⟩
      have b183 := iv15_8 hS139.1 ta0 c182
      rw [c182] at p154
      replace hF := hF.neg (by omega)
      replace hP := hP.neg (by omega)
      replace hF := hF.neg (by omega)
      replace hP := hP.neg (by omega)
      refine tr_lstore_n dX12_readTurner_16 (by decide) (by decide) (by decide) ?_
      refine tr_aload_n dX12_readTurner_17 rfl ?_
      refine tr_ldcwS dX12_readTurner_18 ld12_318 ?_
      refine q_callVi hE (M' := mX12_eatsWord) (as := [_]) dX12_readTurner_21 lk12_290 inX12_eatsWord seX12_eatsWord myX12_eatsWord (by decide) ⟨by decide, by decide⟩ rfl (kR15 hS139.1 ta0) (Nat.le_of_ble_eq_true rfl) rfl rfl (by decide) (by decide) (fk_X12_eatsWord hS139.1 (gB) ((tkN gB (tkN gB gs))) ta0 (by decide) (TxA.kp hT hS139 ta0 rfl rfl rfl (by decide +kernel) (by decide +kernel)) (by (try rw [c170]); first | done | with_reducible assumption | omega) (by (try rw [c170]); first | done | with_reducible assumption | omega) (by (try rw [c173]); first | done | with_reducible assumption | omega) (by (try rw [c176]); first | done | with_reducible assumption | omega) (by (try rw [c178]); first | done | assumption) (by (try rw [c180]); first | done | assumption) (by (try rw [c182]); first | done | assumption) (by (try rw [((hS139.cell ta0 (by decide +kernel)).trans c26)]); first | done | with_reducible assumption | omega)) ?_
      rintro v189 cn' K' N' I184 R185 L186 ⟨rfl, rfl, rfl, rfl, g187, gl188, h190, dj191, -⟩
      (try rw [pk_21] at dj191)
      have hM192 : NmM I184 R0 L133 a1 gQ := NmM.kpS hM166 g187 hS139.1 ta1 (by decide +kernel) (by decide +kernel)
      have hS193 := hS139.tr g187 (by decide +kernel) (by decide +kernel)
      have c194 : I184 a1 4 = v45 := (g187.cell ta1 (by decide +kernel)).trans c140
      have c195 : I184 a0 13 = v167 := (g187.cell ta0 (by decide +kernel)).trans c168
      have hO196 : FrO 14 a1 T I0 I184 := hO141.st g187 (by decide +kernel)
      have hL197 := hL165.tr gl188 (by decide +kernel)
      have hM198 : NmM I184 R0 L186 a1 gQ := NmM.kpL hM192 gl188 hS193.1 ta1 (by decide +kernel)
      rcases dj191 with ⟨p199, p200, p201, p202, p203, p204, p205, p206, p207, p208, p209, -⟩ | ⟨p210, p211, p212, p213, p214, p215, p216, p217, p218, p219, -⟩
      · skip
        rw [c195] at p202
        rw [c168] at p202
        obtain ⟨v220, c221⟩ : ∃ v, I184 a0 9 = v := ⟨_, rfl⟩
        have b222 := iv15_9 hS193.1 ta0 c221
        rw [c221] at p203
        rw [c221] at p204
        obtain ⟨v223, c224⟩ : ∃ v, I184 a0 10 = v := ⟨_, rfl⟩
        have b225 := iv15_10 hS193.1 ta0 c224
        rw [c224] at p205
        obtain ⟨v226, c227⟩ : ∃ v, I184 a0 11 = v := ⟨_, rfl⟩
        rw [c227] at p206
        obtain ⟨y228, c229⟩ : ∃ v, L186 a0 15 = v := ⟨_, rfl⟩
        rw [c229] at p207
        obtain ⟨v230, c231⟩ : ∃ v, I184 a0 12 = v := ⟨_, rfl⟩
        rw [c231] at p208
        obtain ⟨v232, c233⟩ : ∃ v, I184 a0 8 = v := ⟨_, rfl⟩
        have b234 := iv15_8 hS193.1 ta0 c233
        rw [c233] at p209
        refine q_if_eq 31 dX12_readTurner_24 (by decide) (fun h235 => ?_) (fun h235 => ?_)
        · skip
          exfalso; omega
        · skip
          refine q_iconst dX12_readTurner_27 (by decide) ?_
          intro v236 h237
          refine tr_goto 73 dX12_readTurner_28 (by decide) ?_
          refine tr_istore_n dX12_readTurner_73 (by decide) (by decide) ?_
          have kd238 : tkd gB (tkN gB (tkN gB gs)) = 0 := by simp [tkd, (show tkK gB (tkN gB (tkN gB gs)) = 1 by omega), (show tkW gB (tkN gB (tkN gB gs)) = 627891 by omega)]
          have kd238x : tkd gB (tkN gB (tkN gB gs)) = v236.toInt := by omega
          refine tr_iload_n dX12_readTurner_74 rfl ?_
          refine q_iconst dX12_readTurner_75 (by decide) ?_
          intro v239 h240
          refine q_icmp_ne 84 dX12_readTurner_76 (by decide) (fun h241 => ?_) (fun h241 => ?_)
          · skip
            refine sf_tuL hE hZ hS193.1 (gB) (gs) (gQ) ta0 (by omega) (TxA.kp hT hS193 ta0 rfl rfl rfl (by decide +kernel) (by decide +kernel)) (fun b hb => (Option.some.inj (d2.symm.trans hb)) ▸ hM198) (by (try rw [c221]); first | done | with_reducible assumption | omega) (by (try rw [c221]); first | done | with_reducible assumption | omega) (by (try rw [c224]); first | done | with_reducible assumption | omega) (by (try rw [c227]); first | done | with_reducible assumption | omega) (by (try rw [c229]); first | done | assumption) (by (try rw [c231]); first | done | assumption) (by (try rw [c233]); first | done | assumption) (by (try rw [((hS193.cell ta0 (by decide +kernel)).trans c26)]); first | done | with_reducible assumption | omega) (fun q0 z0 => by obtain rfl := Option.some.inj ((d2).symm.trans z0); (try rw [((hS193.cell ta1 (by decide +kernel)).trans c30)]); first | done | with_reducible assumption | omega) (fun q0 z0 => by obtain rfl := Option.some.inj ((d2).symm.trans z0); (try rw [((hS193.cell ta1 (by decide +kernel)).trans c34)]); first | done | with_reducible assumption | omega) (fun q0 z0 => by obtain rfl := Option.some.inj ((d2).symm.trans z0); (try rw [((hS193.cell ta1 (by decide +kernel)).trans c38)]); first | done | with_reducible assumption | omega) (fun q0 z0 => by obtain rfl := Option.some.inj ((d2).symm.trans z0); (try rw [((hS193.cell ta1 (by decide +kernel)).trans c42)]); first | done | with_reducible assumption | omega) (fun q0 z0 => by obtain rfl := Option.some.inj ((d2).symm.trans z0); (try rw [c194]); first | done | with_reducible assumption | omega) (fun q0 z0 => by obtain rfl := Option.some.inj ((d2).symm.trans z0); (try rw [((hS193.cell ta1 (by decide +kernel)).trans c50)]); first | done | with_reducible assumption | omega) (fun q0 z0 => by obtain rfl := Option.some.inj ((d2).symm.trans z0); (try rw [((hS193.cell ta1 (by decide +kernel)).trans c54)]); first | done | with_reducible assumption | omega) (fun q0 z0 => by obtain rfl := Option.some.inj ((d2).symm.trans z0); (try rw [((hS193.cell ta1 (by decide +kernel)).trans c58)]); first | done | with_reducible assumption | omega) (by first | done | assumption) (by first | done | with_reducible assumption | omega) (by first | done | with_reducible assumption | omega) (by first | done | with_reducible assumption | omega) (by first | done | with_reducible assumption | omega) (by first | done | with_reducible assumption | omega) (by first | done | with_reducible assumption | omega) (by first | done | with_reducible assumption | omega) (by first | done | with_reducible assumption | omega) (by first | done | with_reducible assumption | omega) ⟨_, d2⟩ rfl rfl rfl ?_
            rintro I242 R243 L244 ⟨g245, rp246, dj247, -⟩
            obtain rfl : R0 = R243 := funext fun a => funext fun j => (g245.2.2 a j (wm_no rfl)).symm
            have hS248 := hS193.tr g245 (by decide +kernel) (by decide +kernel)
            have hO249 : FrO 14 a1 T I0 I242 := hO196.tr (rp246 _ d2)
            rcases dj247 with ⟨p250, p251, p252, p253, p254, p255, p256, p257, p258, p259, p260, p261, p262, p263, p264, p265, p266, gl267, rp268, -⟩ | ⟨p269, p270, p271, p272, -⟩
            · skip
              have hL273 := hL197.tr gl267 (by decide +kernel)
              have p274 := p251 _ d2
              clear p251
              rw [((hS248.cell ta1 (by decide +kernel)).trans c30)] at p274
              have p275 := p252 _ d2
              clear p252
              rw [((hS248.cell ta1 (by decide +kernel)).trans c34)] at p275
              have p276 := p253 _ d2
              clear p253
              rw [((hS248.cell ta1 (by decide +kernel)).trans c38)] at p276
              have p277 := p254 _ d2
              clear p254
              rw [((hS248.cell ta1 (by decide +kernel)).trans c42)] at p277
              obtain ⟨v278, c279⟩ : ∃ v, I242 a1 4 = v := ⟨_, rfl⟩
              have b280 := iv14_4 hS248.1 ta1 c279
              have p281 := p255 _ d2
              clear p255
              rw [c279] at p281
              have p282 := p256 _ d2
              clear p256
              rw [((hS248.cell ta1 (by decide +kernel)).trans c50)] at p282
              have p283 := p257 _ d2
              clear p257
              rw [((hS248.cell ta1 (by decide +kernel)).trans c54)] at p283
              have p284 := p258 _ d2
              clear p258
              rw [((hS248.cell ta1 (by decide +kernel)).trans c58)] at p284
              obtain ⟨v285, c286⟩ : ∃ v, I242 a0 13 = v := ⟨_, rfl⟩
              rw [c286] at p259
              rw [c195] at p259
              obtain ⟨v287, c288⟩ : ∃ v, I242 a0 9 = v := ⟨_, rfl⟩
              have b289 := iv15_9 hS248.1 ta0 c288
              rw [c288] at p260
              rw [c288] at p261
              obtain ⟨v290, c291⟩ : ∃ v, I242 a0 10 = v := ⟨_, rfl⟩
              have b292 := iv15_10 hS248.1 ta0 c291
              rw [c291] at p262
              obtain ⟨v293, c294⟩ : ∃ v, I242 a0 11 = v := ⟨_, rfl⟩
              rw [c294] at p263
              obtain ⟨y295, c296⟩ : ∃ v, L244 a0 15 = v := ⟨_, rfl⟩
              rw [c296] at p264
              obtain ⟨v297, c298⟩ : ∃ v, I242 a0 12 = v := ⟨_, rfl⟩
              rw [c298] at p265
              obtain ⟨v299, c300⟩ : ∃ v, I242 a0 8 = v := ⟨_, rfl⟩
              have b301 := iv15_8 hS248.1 ta0 c300
              rw [c300] at p266
              obtain ⟨v302, c303⟩ : ∃ v, I242 a0 14 = v := ⟨_, rfl⟩
              exact ⟨rfl, rfl, rfl, rfl, rfl, hS248, (fun dr hd => (Option.some.inj (d2.symm.trans hd)) ▸ hO249), (Or.inl ⟨(by first | done | with_reducible assumption | omega), (fun q0 z0 => by obtain rfl := Option.some.inj ((d2).symm.trans z0); (try rw [((hS248.cell ta1 (by decide +kernel)).trans c30)]); first | done | with_reducible assumption | omega), (fun q0 z0 => by obtain rfl := Option.some.inj ((d2).symm.trans z0); (try rw [((hS248.cell ta1 (by decide +kernel)).trans c34)]); first | done | with_reducible assumption | omega), (fun q0 z0 => by obtain rfl := Option.some.inj ((d2).symm.trans z0); (try rw [((hS248.cell ta1 (by decide +kernel)).trans c38)]); first | done | with_reducible assumption | omega), (fun q0 z0 => by obtain rfl := Option.some.inj ((d2).symm.trans z0); (try rw [((hS248.cell ta1 (by decide +kernel)).trans c42)]); first | done | with_reducible assumption | omega), (fun q0 z0 => by obtain rfl := Option.some.inj ((d2).symm.trans z0); (try rw [c279]); first | done | with_reducible assumption | omega), (fun q0 z0 => by obtain rfl := Option.some.inj ((d2).symm.trans z0); (try rw [((hS248.cell ta1 (by decide +kernel)).trans c50)]); first | done | with_reducible assumption | omega), (fun q0 z0 => by obtain rfl := Option.some.inj ((d2).symm.trans z0); (try rw [((hS248.cell ta1 (by decide +kernel)).trans c54)]); first | done | with_reducible assumption | omega), (fun q0 z0 => by obtain rfl := Option.some.inj ((d2).symm.trans z0); (try rw [((hS248.cell ta1 (by decide +kernel)).trans c58)]); first | done | with_reducible assumption | omega), (by (try rw [c286]); (try rw [c65]); first | done | with_reducible assumption | omega), (by (try rw [c288]); first | done | with_reducible assumption | omega), (by (try rw [c288]); first | done | with_reducible assumption | omega), (by (try rw [c291]); first | done | with_reducible assumption | omega), (by (try rw [c294]); first | done | with_reducible assumption | omega), (by (try rw [c296]); first | done | assumption), (by (try rw [c298]); first | done | assumption), (by (try rw [c300]); first | done | assumption), hL273, rp268, trivial⟩), trivial⟩
            · skip
              obtain ⟨v304, c305⟩ : ∃ v, I242 a0 9 = v := ⟨_, rfl⟩
              have b306 := iv15_9 hS248.1 ta0 c305
              rw [c305] at p270
              obtain ⟨v307, c308⟩ : ∃ v, I242 a0 13 = v := ⟨_, rfl⟩
              rw [c308] at p271
              obtain ⟨v309, c310⟩ : ∃ v, I242 a0 14 = v := ⟨_, rfl⟩
              rw [c310] at p272
              obtain ⟨v311, c312⟩ : ∃ v, I242 a1 4 = v := ⟨_, rfl⟩
              have b313 := iv14_4 hS248.1 ta1 c312
              obtain ⟨v314, c315⟩ : ∃ v, I242 a0 10 = v := ⟨_, rfl⟩
              have b316 := iv15_10 hS248.1 ta0 c315
              obtain ⟨v317, c318⟩ : ∃ v, I242 a0 11 = v := ⟨_, rfl⟩
              obtain ⟨y319, c320⟩ : ∃ v, L244 a0 15 = v := ⟨_, rfl⟩
              obtain ⟨v321, c322⟩ : ∃ v, I242 a0 12 = v := ⟨_, rfl⟩
              obtain ⟨v323, c324⟩ : ∃ v, I242 a0 8 = v := ⟨_, rfl⟩
              have b325 := iv15_8 hS248.1 ta0 c324
              exact ⟨rfl, rfl, rfl, rfl, rfl, hS248, (fun dr hd => (Option.some.inj (d2.symm.trans hd)) ▸ hO249), (Or.inr (⟨(by first | done | with_reducible assumption | omega), (by (try rw [c305]); first | done | with_reducible assumption | omega), (by (try rw [c308]); first | done | with_reducible assumption | omega), (by (try rw [c310]); first | done | with_reducible assumption | omega), trivial⟩)), trivial⟩
          · skip
            exfalso; omega
      · skip
        rw [c195] at p212
        rw [c168] at p212
        obtain ⟨v326, c327⟩ : ∃ v, I184 a0 9 = v := ⟨_, rfl⟩
        have b328 := iv15_9 hS193.1 ta0 c327
        rw [c327] at p213
        rw [c327] at p214
        obtain ⟨v329, c330⟩ : ∃ v, I184 a0 10 = v := ⟨_, rfl⟩
        have b331 := iv15_10 hS193.1 ta0 c330
        rw [c330] at p215
        obtain ⟨v332, c333⟩ : ∃ v, I184 a0 11 = v := ⟨_, rfl⟩
        rw [c333] at p216
        obtain ⟨y334, c335⟩ : ∃ v, L186 a0 15 = v := ⟨_, rfl⟩
        rw [c335] at p217
        obtain ⟨v336, c337⟩ : ∃ v, I184 a0 12 = v := ⟨_, rfl⟩
        rw [c337] at p218
        obtain ⟨v338, c339⟩ : ∃ v, I184 a0 8 = v := ⟨_, rfl⟩
        have b340 := iv15_8 hS193.1 ta0 c339
        rw [c339] at p219
        refine q_if_eq 31 dX12_readTurner_24 (by decide) (fun h341 => ?_) (fun h341 => ?_)
        · skip
          refine tr_aload_n dX12_readTurner_31 rfl ?_
          refine tr_ldcwS dX12_readTurner_32 ld12_320 ?_
          refine q_callVi hE (M' := mX12_eatsWord) (as := [_]) dX12_readTurner_35 lk12_290 inX12_eatsWord seX12_eatsWord myX12_eatsWord (by decide) ⟨by decide, by decide⟩ rfl (kR15 hS193.1 ta0) (Nat.le_of_ble_eq_true rfl) rfl rfl (by decide) (by decide) (fk_X12_eatsWord hS193.1 (gB) ((tkN gB (tkN gB gs))) ta0 (by decide) (TxA.kp hT hS193 ta0 rfl rfl rfl (by decide +kernel) (by decide +kernel)) (by (try rw [c327]); first | done | with_reducible assumption | omega) (by (try rw [c327]); first | done | with_reducible assumption | omega) (by (try rw [c330]); first | done | with_reducible assumption | omega) (by (try rw [c333]); first | done | with_reducible assumption | omega) (by (try rw [c335]); first | done | assumption) (by (try rw [c337]); first | done | assumption) (by (try rw [c339]); first | done | assumption) (by (try rw [((hS193.cell ta0 (by decide +kernel)).trans c26)]); first | done | with_reducible assumption | omega)) ?_
          rintro v347 cn' K' N' I342 R343 L344 ⟨rfl, rfl, rfl, rfl, g345, gl346, h348, dj349, -⟩
          (try rw [pk_3] at dj349)
          have hM350 : NmM I342 R0 L186 a1 gQ := NmM.kpS hM198 g345 hS193.1 ta1 (by decide +kernel) (by decide +kernel)
          have hS351 := hS193.tr g345 (by decide +kernel) (by decide +kernel)
          have c352 : I342 a1 4 = v45 := (g345.cell ta1 (by decide +kernel)).trans c194
          have c353 : I342 a0 13 = v167 := (g345.cell ta0 (by decide +kernel)).trans c195
          have hO354 : FrO 14 a1 T I0 I342 := hO196.st g345 (by decide +kernel)
          have hL355 := hL197.tr gl346 (by decide +kernel)
          have hM356 : NmM I342 R0 L344 a1 gQ := NmM.kpL hM350 gl346 hS351.1 ta1 (by decide +kernel)
          rcases dj349 with ⟨p357, p358, p359, p360, p361, p362, p363, p364, p365, p366, p367, -⟩ | ⟨p368, p369, p370, p371, p372, p373, p374, p375, p376, p377, -⟩
          · skip
            rw [c353] at p360
            rw [c195] at p360
            obtain ⟨v378, c379⟩ : ∃ v, I342 a0 9 = v := ⟨_, rfl⟩
            have b380 := iv15_9 hS351.1 ta0 c379
            rw [c379] at p361
            rw [c379] at p362
            obtain ⟨v381, c382⟩ : ∃ v, I342 a0 10 = v := ⟨_, rfl⟩
            have b383 := iv15_10 hS351.1 ta0 c382
            rw [c382] at p363
            obtain ⟨v384, c385⟩ : ∃ v, I342 a0 11 = v := ⟨_, rfl⟩
            rw [c385] at p364
            obtain ⟨y386, c387⟩ : ∃ v, L344 a0 15 = v := ⟨_, rfl⟩
            rw [c387] at p365
            obtain ⟨v388, c389⟩ : ∃ v, I342 a0 12 = v := ⟨_, rfl⟩
            rw [c389] at p366
            obtain ⟨v390, c391⟩ : ∃ v, I342 a0 8 = v := ⟨_, rfl⟩
            have b392 := iv15_8 hS351.1 ta0 c391
            rw [c391] at p367
            refine q_if_eq 45 dX12_readTurner_38 (by decide) (fun h393 => ?_) (fun h393 => ?_)
            · skip
              exfalso; omega
            · skip
              refine q_iconst dX12_readTurner_41 (by decide) ?_
              intro v394 h395
              refine tr_goto 73 dX12_readTurner_42 (by decide) ?_
              refine tr_istore_n dX12_readTurner_73 (by decide) (by decide) ?_
              have kd396 : tkd gB (tkN gB (tkN gB gs)) = 1 := by simp [tkd, (show tkK gB (tkN gB (tkN gB gs)) = 1 by omega), (show tkW gB (tkN gB (tkN gB gs)) = 2500036 by omega)]
              have kd396x : tkd gB (tkN gB (tkN gB gs)) = v394.toInt := by omega
              refine tr_iload_n dX12_readTurner_74 rfl ?_
              refine q_iconst dX12_readTurner_75 (by decide) ?_
              intro v397 h398
              refine q_icmp_ne 84 dX12_readTurner_76 (by decide) (fun h399 => ?_) (fun h399 => ?_)
              · skip
                refine sf_tuL hE hZ hS351.1 (gB) (gs) (gQ) ta0 (by omega) (TxA.kp hT hS351 ta0 rfl rfl rfl (by decide +kernel) (by decide +kernel)) (fun b hb => (Option.some.inj (d2.symm.trans hb)) ▸ hM356) (by (try rw [c379]); first | done | with_reducible assumption | omega) (by (try rw [c379]); first | done | with_reducible assumption | omega) (by (try rw [c382]); first | done | with_reducible assumption | omega) (by (try rw [c385]); first | done | with_reducible assumption | omega) (by (try rw [c387]); first | done | assumption) (by (try rw [c389]); first | done | assumption) (by (try rw [c391]); first | done | assumption) (by (try rw [((hS351.cell ta0 (by decide +kernel)).trans c26)]); first | done | with_reducible assumption | omega) (fun q0 z0 => by obtain rfl := Option.some.inj ((d2).symm.trans z0); (try rw [((hS351.cell ta1 (by decide +kernel)).trans c30)]); first | done | with_reducible assumption | omega) (fun q0 z0 => by obtain rfl := Option.some.inj ((d2).symm.trans z0); (try rw [((hS351.cell ta1 (by decide +kernel)).trans c34)]); first | done | with_reducible assumption | omega) (fun q0 z0 => by obtain rfl := Option.some.inj ((d2).symm.trans z0); (try rw [((hS351.cell ta1 (by decide +kernel)).trans c38)]); first | done | with_reducible assumption | omega) (fun q0 z0 => by obtain rfl := Option.some.inj ((d2).symm.trans z0); (try rw [((hS351.cell ta1 (by decide +kernel)).trans c42)]); first | done | with_reducible assumption | omega) (fun q0 z0 => by obtain rfl := Option.some.inj ((d2).symm.trans z0); (try rw [c352]); first | done | with_reducible assumption | omega) (fun q0 z0 => by obtain rfl := Option.some.inj ((d2).symm.trans z0); (try rw [((hS351.cell ta1 (by decide +kernel)).trans c50)]); first | done | with_reducible assumption | omega) (fun q0 z0 => by obtain rfl := Option.some.inj ((d2).symm.trans z0); (try rw [((hS351.cell ta1 (by decide +kernel)).trans c54)]); first | done | with_reducible assumption | omega) (fun q0 z0 => by obtain rfl := Option.some.inj ((d2).symm.trans z0); (try rw [((hS351.cell ta1 (by decide +kernel)).trans c58)]); first | done | with_reducible assumption | omega) (by first | done | assumption) (by first | done | with_reducible assumption | omega) (by first | done | with_reducible assumption | omega) (by first | done | with_reducible assumption | omega) (by first | done | with_reducible assumption | omega) (by first | done | with_reducible assumption | omega) (by first | done | with_reducible assumption | omega) (by first | done | with_reducible assumption | omega) (by first | done | with_reducible assumption | omega) (by first | done | with_reducible assumption | omega) ⟨_, d2⟩ rfl rfl rfl ?_
                rintro I400 R401 L402 ⟨g403, rp404, dj405, -⟩
                obtain rfl : R0 = R401 := funext fun a => funext fun j => (g403.2.2 a j (wm_no rfl)).symm
                have hS406 := hS351.tr g403 (by decide +kernel) (by decide +kernel)
                have hO407 : FrO 14 a1 T I0 I400 := hO354.tr (rp404 _ d2)
                rcases dj405 with ⟨p408, p409, p410, p411, p412, p413, p414, p415, p416, p417, p418, p419, p420, p421, p422, p423, p424, gl425, rp426, -⟩ | ⟨p427, p428, p429, p430, -⟩
                · skip
                  have hL431 := hL355.tr gl425 (by decide +kernel)
                  have p432 := p409 _ d2
                  clear p409
                  rw [((hS406.cell ta1 (by decide +kernel)).trans c30)] at p432
                  have p433 := p410 _ d2
                  clear p410
                  rw [((hS406.cell ta1 (by decide +kernel)).trans c34)] at p433
                  have p434 := p411 _ d2
                  clear p411
                  rw [((hS406.cell ta1 (by decide +kernel)).trans c38)] at p434
                  have p435 := p412 _ d2
                  clear p412
                  rw [((hS406.cell ta1 (by decide +kernel)).trans c42)] at p435
                  obtain ⟨v436, c437⟩ : ∃ v, I400 a1 4 = v := ⟨_, rfl⟩
                  have b438 := iv14_4 hS406.1 ta1 c437
                  have p439 := p413 _ d2
                  clear p413
                  rw [c437] at p439
                  have p440 := p414 _ d2
                  clear p414
                  rw [((hS406.cell ta1 (by decide +kernel)).trans c50)] at p440
                  have p441 := p415 _ d2
                  clear p415
                  rw [((hS406.cell ta1 (by decide +kernel)).trans c54)] at p441
                  have p442 := p416 _ d2
                  clear p416
                  rw [((hS406.cell ta1 (by decide +kernel)).trans c58)] at p442
                  obtain ⟨v443, c444⟩ : ∃ v, I400 a0 13 = v := ⟨_, rfl⟩
                  rw [c444] at p417
                  rw [c353] at p417
                  obtain ⟨v445, c446⟩ : ∃ v, I400 a0 9 = v := ⟨_, rfl⟩
                  have b447 := iv15_9 hS406.1 ta0 c446
                  rw [c446] at p418
                  rw [c446] at p419
                  obtain ⟨v448, c449⟩ : ∃ v, I400 a0 10 = v := ⟨_, rfl⟩
                  have b450 := iv15_10 hS406.1 ta0 c449
                  rw [c449] at p420
                  obtain ⟨v451, c452⟩ : ∃ v, I400 a0 11 = v := ⟨_, rfl⟩
                  rw [c452] at p421
                  obtain ⟨y453, c454⟩ : ∃ v, L402 a0 15 = v := ⟨_, rfl⟩
                  rw [c454] at p422
                  obtain ⟨v455, c456⟩ : ∃ v, I400 a0 12 = v := ⟨_, rfl⟩
                  rw [c456] at p423
                  obtain ⟨v457, c458⟩ : ∃ v, I400 a0 8 = v := ⟨_, rfl⟩
                  have b459 := iv15_8 hS406.1 ta0 c458
                  rw [c458] at p424
                  obtain ⟨v460, c461⟩ : ∃ v, I400 a0 14 = v := ⟨_, rfl⟩
                  exact ⟨rfl, rfl, rfl, rfl, rfl, hS406, (fun dr hd => (Option.some.inj (d2.symm.trans hd)) ▸ hO407), (Or.inl ⟨(by first | done | with_reducible assumption | omega), (fun q0 z0 => by obtain rfl := Option.some.inj ((d2).symm.trans z0); (try rw [((hS406.cell ta1 (by decide +kernel)).trans c30)]); first | done | with_reducible assumption | omega), (fun q0 z0 => by obtain rfl := Option.some.inj ((d2).symm.trans z0); (try rw [((hS406.cell ta1 (by decide +kernel)).trans c34)]); first | done | with_reducible assumption | omega), (fun q0 z0 => by obtain rfl := Option.some.inj ((d2).symm.trans z0); (try rw [((hS406.cell ta1 (by decide +kernel)).trans c38)]); first | done | with_reducible assumption | omega), (fun q0 z0 => by obtain rfl := Option.some.inj ((d2).symm.trans z0); (try rw [((hS406.cell ta1 (by decide +kernel)).trans c42)]); first | done | with_reducible assumption | omega), (fun q0 z0 => by obtain rfl := Option.some.inj ((d2).symm.trans z0); (try rw [c437]); first | done | with_reducible assumption | omega), (fun q0 z0 => by obtain rfl := Option.some.inj ((d2).symm.trans z0); (try rw [((hS406.cell ta1 (by decide +kernel)).trans c50)]); first | done | with_reducible assumption | omega), (fun q0 z0 => by obtain rfl := Option.some.inj ((d2).symm.trans z0); (try rw [((hS406.cell ta1 (by decide +kernel)).trans c54)]); first | done | with_reducible assumption | omega), (fun q0 z0 => by obtain rfl := Option.some.inj ((d2).symm.trans z0); (try rw [((hS406.cell ta1 (by decide +kernel)).trans c58)]); first | done | with_reducible assumption | omega), (by (try rw [c444]); (try rw [c65]); first | done | with_reducible assumption | omega), (by (try rw [c446]); first | done | with_reducible assumption | omega), (by (try rw [c446]); first | done | with_reducible assumption | omega), (by (try rw [c449]); first | done | with_reducible assumption | omega), (by (try rw [c452]); first | done | with_reducible assumption | omega), (by (try rw [c454]); first | done | assumption), (by (try rw [c456]); first | done | assumption), (by (try rw [c458]); first | done | assumption), hL431, rp426, trivial⟩), trivial⟩
                · skip
                  obtain ⟨v462, c463⟩ : ∃ v, I400 a0 9 = v := ⟨_, rfl⟩
                  have b464 := iv15_9 hS406.1 ta0 c463
                  rw [c463] at p428
                  obtain ⟨v465, c466⟩ : ∃ v, I400 a0 13 = v := ⟨_, rfl⟩
                  rw [c466] at p429
                  obtain ⟨v467, c468⟩ : ∃ v, I400 a0 14 = v := ⟨_, rfl⟩
                  rw [c468] at p430
                  obtain ⟨v469, c470⟩ : ∃ v, I400 a1 4 = v := ⟨_, rfl⟩
                  have b471 := iv14_4 hS406.1 ta1 c470
                  obtain ⟨v472, c473⟩ : ∃ v, I400 a0 10 = v := ⟨_, rfl⟩
                  have b474 := iv15_10 hS406.1 ta0 c473
                  obtain ⟨v475, c476⟩ : ∃ v, I400 a0 11 = v := ⟨_, rfl⟩
                  obtain ⟨y477, c478⟩ : ∃ v, L402 a0 15 = v := ⟨_, rfl⟩
                  obtain ⟨v479, c480⟩ : ∃ v, I400 a0 12 = v := ⟨_, rfl⟩
                  obtain ⟨v481, c482⟩ : ∃ v, I400 a0 8 = v := ⟨_, rfl⟩
                  have b483 := iv15_8 hS406.1 ta0 c482
                  exact ⟨rfl, rfl, rfl, rfl, rfl, hS406, (fun dr hd => (Option.some.inj (d2.symm.trans hd)) ▸ hO407), (Or.inr (⟨(by first | done | with_reducible assumption | omega), (by (try rw [c463]); first | done | with_reducible assumption | omega), (by (try rw [c466]); first | done | with_reducible assumption | omega), (by (try rw [c468]); first | done | with_reducible assumption | omega), trivial⟩)), trivial⟩
              · skip
                exfalso; omega
          · skip
            rw [c353] at p370
            rw [c195] at p370
            obtain ⟨v484, c485⟩ : ∃ v, I342 a0 9 = v := ⟨_, rfl⟩
            have b486 := iv15_9 hS351.1 ta0 c485
            rw [c485] at p371
            rw [c485] at p372
            obtain ⟨v487, c488⟩ : ∃ v, I342 a0 10 = v := ⟨_, rfl⟩
            have b489 := iv15_10 hS351.1 ta0 c488
            rw [c488] at p373
            obtain ⟨v490, c491⟩ : ∃ v, I342 a0 11 = v := ⟨_, rfl⟩
            rw [c491] at p374
            obtain ⟨y492, c493⟩ : ∃ v, L344 a0 15 = v := ⟨_, rfl⟩
            rw [c493] at p375
            obtain ⟨v494, c495⟩ : ∃ v, I342 a0 12 = v := ⟨_, rfl⟩
            rw [c495] at p376
            obtain ⟨v496, c497⟩ : ∃ v, I342 a0 8 = v := ⟨_, rfl⟩
            have b498 := iv15_8 hS351.1 ta0 c497
            rw [c497] at p377
            refine q_if_eq 45 dX12_readTurner_38 (by decide) (fun h499 => ?_) (fun h499 => ?_)
            · skip
              refine tr_aload_n dX12_readTurner_45 rfl ?_
              refine tr_ldcwS dX12_readTurner_46 ld12_322 ?_
              refine q_callVi hE (M' := mX12_eatsWord) (as := [_]) dX12_readTurner_49 lk12_290 inX12_eatsWord seX12_eatsWord myX12_eatsWord (by decide) ⟨by decide, by decide⟩ rfl (kR15 hS351.1 ta0) (Nat.le_of_ble_eq_true rfl) rfl rfl (by decide) (by decide) (fk_X12_eatsWord hS351.1 (gB) ((tkN gB (tkN gB gs))) ta0 (by decide) (TxA.kp hT hS351 ta0 rfl rfl rfl (by decide +kernel) (by decide +kernel)) (by (try rw [c485]); first | done | with_reducible assumption | omega) (by (try rw [c485]); first | done | with_reducible assumption | omega) (by (try rw [c488]); first | done | with_reducible assumption | omega) (by (try rw [c491]); first | done | with_reducible assumption | omega) (by (try rw [c493]); first | done | assumption) (by (try rw [c495]); first | done | assumption) (by (try rw [c497]); first | done | assumption) (by (try rw [((hS351.cell ta0 (by decide +kernel)).trans c26)]); first | done | with_reducible assumption | omega)) ?_
              rintro v505 cn' K' N' I500 R501 L502 ⟨rfl, rfl, rfl, rfl, g503, gl504, h506, dj507, -⟩
              (try rw [pk_9] at dj507)
              have hM508 : NmM I500 R0 L344 a1 gQ := NmM.kpS hM356 g503 hS351.1 ta1 (by decide +kernel) (by decide +kernel)
              have hS509 := hS351.tr g503 (by decide +kernel) (by decide +kernel)
              have c510 : I500 a1 4 = v45 := (g503.cell ta1 (by decide +kernel)).trans c352
              have c511 : I500 a0 13 = v167 := (g503.cell ta0 (by decide +kernel)).trans c353
              have hO512 : FrO 14 a1 T I0 I500 := hO354.st g503 (by decide +kernel)
              have hL513 := hL355.tr gl504 (by decide +kernel)
              have hM514 : NmM I500 R0 L502 a1 gQ := NmM.kpL hM508 gl504 hS509.1 ta1 (by decide +kernel)
              rcases dj507 with ⟨p515, p516, p517, p518, p519, p520, p521, p522, p523, p524, p525, -⟩ | ⟨p526, p527, p528, p529, p530, p531, p532, p533, p534, p535, -⟩
              · skip
                rw [c511] at p518
                rw [c353] at p518
                obtain ⟨v536, c537⟩ : ∃ v, I500 a0 9 = v := ⟨_, rfl⟩
                have b538 := iv15_9 hS509.1 ta0 c537
                rw [c537] at p519
                rw [c537] at p520
                obtain ⟨v539, c540⟩ : ∃ v, I500 a0 10 = v := ⟨_, rfl⟩
                have b541 := iv15_10 hS509.1 ta0 c540
                rw [c540] at p521
                obtain ⟨v542, c543⟩ : ∃ v, I500 a0 11 = v := ⟨_, rfl⟩
                rw [c543] at p522
                obtain ⟨y544, c545⟩ : ∃ v, L502 a0 15 = v := ⟨_, rfl⟩
                rw [c545] at p523
                obtain ⟨v546, c547⟩ : ∃ v, I500 a0 12 = v := ⟨_, rfl⟩
                rw [c547] at p524
                obtain ⟨v548, c549⟩ : ∃ v, I500 a0 8 = v := ⟨_, rfl⟩
                have b550 := iv15_8 hS509.1 ta0 c549
                rw [c549] at p525
                refine q_if_eq 59 dX12_readTurner_52 (by decide) (fun h551 => ?_) (fun h551 => ?_)
                · skip
                  exfalso; omega
                · skip
                  refine q_iconst dX12_readTurner_55 (by decide) ?_
                  intro v552 h553
                  refine tr_goto 73 dX12_readTurner_56 (by decide) ?_
                  refine tr_istore_n dX12_readTurner_73 (by decide) (by decide) ?_
                  have kd554 : tkd gB (tkN gB (tkN gB gs)) = 2 := by simp [tkd, (show tkK gB (tkN gB (tkN gB gs)) = 1 by omega), (show tkW gB (tkN gB (tkN gB gs)) = 136230 by omega)]
                  have kd554x : tkd gB (tkN gB (tkN gB gs)) = v552.toInt := by omega
                  refine tr_iload_n dX12_readTurner_74 rfl ?_
                  refine q_iconst dX12_readTurner_75 (by decide) ?_
                  intro v555 h556
                  refine q_icmp_ne 84 dX12_readTurner_76 (by decide) (fun h557 => ?_) (fun h557 => ?_)
                  · skip
                    refine sf_tuL hE hZ hS509.1 (gB) (gs) (gQ) ta0 (by omega) (TxA.kp hT hS509 ta0 rfl rfl rfl (by decide +kernel) (by decide +kernel)) (fun b hb => (Option.some.inj (d2.symm.trans hb)) ▸ hM514) (by (try rw [c537]); first | done | with_reducible assumption | omega) (by (try rw [c537]); first | done | with_reducible assumption | omega) (by (try rw [c540]); first | done | with_reducible assumption | omega) (by (try rw [c543]); first | done | with_reducible assumption | omega) (by (try rw [c545]); first | done | assumption) (by (try rw [c547]); first | done | assumption) (by (try rw [c549]); first | done | assumption) (by (try rw [((hS509.cell ta0 (by decide +kernel)).trans c26)]); first | done | with_reducible assumption | omega) (fun q0 z0 => by obtain rfl := Option.some.inj ((d2).symm.trans z0); (try rw [((hS509.cell ta1 (by decide +kernel)).trans c30)]); first | done | with_reducible assumption | omega) (fun q0 z0 => by obtain rfl := Option.some.inj ((d2).symm.trans z0); (try rw [((hS509.cell ta1 (by decide +kernel)).trans c34)]); first | done | with_reducible assumption | omega) (fun q0 z0 => by obtain rfl := Option.some.inj ((d2).symm.trans z0); (try rw [((hS509.cell ta1 (by decide +kernel)).trans c38)]); first | done | with_reducible assumption | omega) (fun q0 z0 => by obtain rfl := Option.some.inj ((d2).symm.trans z0); (try rw [((hS509.cell ta1 (by decide +kernel)).trans c42)]); first | done | with_reducible assumption | omega) (fun q0 z0 => by obtain rfl := Option.some.inj ((d2).symm.trans z0); (try rw [c510]); first | done | with_reducible assumption | omega) (fun q0 z0 => by obtain rfl := Option.some.inj ((d2).symm.trans z0); (try rw [((hS509.cell ta1 (by decide +kernel)).trans c50)]); first | done | with_reducible assumption | omega) (fun q0 z0 => by obtain rfl := Option.some.inj ((d2).symm.trans z0); (try rw [((hS509.cell ta1 (by decide +kernel)).trans c54)]); first | done | with_reducible assumption | omega) (fun q0 z0 => by obtain rfl := Option.some.inj ((d2).symm.trans z0); (try rw [((hS509.cell ta1 (by decide +kernel)).trans c58)]); first | done | with_reducible assumption | omega) (by first | done | assumption) (by first | done | with_reducible assumption | omega) (by first | done | with_reducible assumption | omega) (by first | done | with_reducible assumption | omega) (by first | done | with_reducible assumption | omega) (by first | done | with_reducible assumption | omega) (by first | done | with_reducible assumption | omega) (by first | done | with_reducible assumption | omega) (by first | done | with_reducible assumption | omega) (by first | done | with_reducible assumption | omega) ⟨_, d2⟩ rfl rfl rfl ?_
                    rintro I558 R559 L560 ⟨g561, rp562, dj563, -⟩
                    obtain rfl : R0 = R559 := funext fun a => funext fun j => (g561.2.2 a j (wm_no rfl)).symm
                    have hS564 := hS509.tr g561 (by decide +kernel) (by decide +kernel)
                    have hO565 : FrO 14 a1 T I0 I558 := hO512.tr (rp562 _ d2)
                    rcases dj563 with ⟨p566, p567, p568, p569, p570, p571, p572, p573, p574, p575, p576, p577, p578, p579, p580, p581, p582, gl583, rp584, -⟩ | ⟨p585, p586, p587, p588, -⟩
                    · skip
                      have hL589 := hL513.tr gl583 (by decide +kernel)
                      have p590 := p567 _ d2
                      clear p567
                      rw [((hS564.cell ta1 (by decide +kernel)).trans c30)] at p590
                      have p591 := p568 _ d2
                      clear p568
                      rw [((hS564.cell ta1 (by decide +kernel)).trans c34)] at p591
                      have p592 := p569 _ d2
                      clear p569
                      rw [((hS564.cell ta1 (by decide +kernel)).trans c38)] at p592
                      have p593 := p570 _ d2
                      clear p570
                      rw [((hS564.cell ta1 (by decide +kernel)).trans c42)] at p593
                      obtain ⟨v594, c595⟩ : ∃ v, I558 a1 4 = v := ⟨_, rfl⟩
                      have b596 := iv14_4 hS564.1 ta1 c595
                      have p597 := p571 _ d2
                      clear p571
                      rw [c595] at p597
                      have p598 := p572 _ d2
                      clear p572
                      rw [((hS564.cell ta1 (by decide +kernel)).trans c50)] at p598
                      have p599 := p573 _ d2
                      clear p573
                      rw [((hS564.cell ta1 (by decide +kernel)).trans c54)] at p599
                      have p600 := p574 _ d2
                      clear p574
                      rw [((hS564.cell ta1 (by decide +kernel)).trans c58)] at p600
                      obtain ⟨v601, c602⟩ : ∃ v, I558 a0 13 = v := ⟨_, rfl⟩
                      rw [c602] at p575
                      rw [c511] at p575
                      obtain ⟨v603, c604⟩ : ∃ v, I558 a0 9 = v := ⟨_, rfl⟩
                      have b605 := iv15_9 hS564.1 ta0 c604
                      rw [c604] at p576
                      rw [c604] at p577
                      obtain ⟨v606, c607⟩ : ∃ v, I558 a0 10 = v := ⟨_, rfl⟩
                      have b608 := iv15_10 hS564.1 ta0 c607
                      rw [c607] at p578
                      obtain ⟨v609, c610⟩ : ∃ v, I558 a0 11 = v := ⟨_, rfl⟩
                      rw [c610] at p579
                      obtain ⟨y611, c612⟩ : ∃ v, L560 a0 15 = v := ⟨_, rfl⟩
                      rw [c612] at p580
                      obtain ⟨v613, c614⟩ : ∃ v, I558 a0 12 = v := ⟨_, rfl⟩
                      rw [c614] at p581
                      obtain ⟨v615, c616⟩ : ∃ v, I558 a0 8 = v := ⟨_, rfl⟩
                      have b617 := iv15_8 hS564.1 ta0 c616
                      rw [c616] at p582
                      obtain ⟨v618, c619⟩ : ∃ v, I558 a0 14 = v := ⟨_, rfl⟩
                      exact ⟨rfl, rfl, rfl, rfl, rfl, hS564, (fun dr hd => (Option.some.inj (d2.symm.trans hd)) ▸ hO565), (Or.inl ⟨(by first | done | with_reducible assumption | omega), (fun q0 z0 => by obtain rfl := Option.some.inj ((d2).symm.trans z0); (try rw [((hS564.cell ta1 (by decide +kernel)).trans c30)]); first | done | with_reducible assumption | omega), (fun q0 z0 => by obtain rfl := Option.some.inj ((d2).symm.trans z0); (try rw [((hS564.cell ta1 (by decide +kernel)).trans c34)]); first | done | with_reducible assumption | omega), (fun q0 z0 => by obtain rfl := Option.some.inj ((d2).symm.trans z0); (try rw [((hS564.cell ta1 (by decide +kernel)).trans c38)]); first | done | with_reducible assumption | omega), (fun q0 z0 => by obtain rfl := Option.some.inj ((d2).symm.trans z0); (try rw [((hS564.cell ta1 (by decide +kernel)).trans c42)]); first | done | with_reducible assumption | omega), (fun q0 z0 => by obtain rfl := Option.some.inj ((d2).symm.trans z0); (try rw [c595]); first | done | with_reducible assumption | omega), (fun q0 z0 => by obtain rfl := Option.some.inj ((d2).symm.trans z0); (try rw [((hS564.cell ta1 (by decide +kernel)).trans c50)]); first | done | with_reducible assumption | omega), (fun q0 z0 => by obtain rfl := Option.some.inj ((d2).symm.trans z0); (try rw [((hS564.cell ta1 (by decide +kernel)).trans c54)]); first | done | with_reducible assumption | omega), (fun q0 z0 => by obtain rfl := Option.some.inj ((d2).symm.trans z0); (try rw [((hS564.cell ta1 (by decide +kernel)).trans c58)]); first | done | with_reducible assumption | omega), (by (try rw [c602]); (try rw [c65]); first | done | with_reducible assumption | omega), (by (try rw [c604]); first | done | with_reducible assumption | omega), (by (try rw [c604]); first | done | with_reducible assumption | omega), (by (try rw [c607]); first | done | with_reducible assumption | omega), (by (try rw [c610]); first | done | with_reducible assumption | omega), (by (try rw [c612]); first | done | assumption), (by (try rw [c614]); first | done | assumption), (by (try rw [c616]); first | done | assumption), hL589, rp584, trivial⟩), trivial⟩
                    · skip
                      obtain ⟨v620, c621⟩ : ∃ v, I558 a0 9 = v := ⟨_, rfl⟩
                      have b622 := iv15_9 hS564.1 ta0 c621
                      rw [c621] at p586
                      obtain ⟨v623, c624⟩ : ∃ v, I558 a0 13 = v := ⟨_, rfl⟩
                      rw [c624] at p587
                      obtain ⟨v625, c626⟩ : ∃ v, I558 a0 14 = v := ⟨_, rfl⟩
                      rw [c626] at p588
                      obtain ⟨v627, c628⟩ : ∃ v, I558 a1 4 = v := ⟨_, rfl⟩
                      have b629 := iv14_4 hS564.1 ta1 c628
                      obtain ⟨v630, c631⟩ : ∃ v, I558 a0 10 = v := ⟨_, rfl⟩
                      have b632 := iv15_10 hS564.1 ta0 c631
                      obtain ⟨v633, c634⟩ : ∃ v, I558 a0 11 = v := ⟨_, rfl⟩
                      obtain ⟨y635, c636⟩ : ∃ v, L560 a0 15 = v := ⟨_, rfl⟩
                      obtain ⟨v637, c638⟩ : ∃ v, I558 a0 12 = v := ⟨_, rfl⟩
                      obtain ⟨v639, c640⟩ : ∃ v, I558 a0 8 = v := ⟨_, rfl⟩
                      have b641 := iv15_8 hS564.1 ta0 c640
                      exact ⟨rfl, rfl, rfl, rfl, rfl, hS564, (fun dr hd => (Option.some.inj (d2.symm.trans hd)) ▸ hO565), (Or.inr (⟨(by first | done | with_reducible assumption | omega), (by (try rw [c621]); first | done | with_reducible assumption | omega), (by (try rw [c624]); first | done | with_reducible assumption | omega), (by (try rw [c626]); first | done | with_reducible assumption | omega), trivial⟩)), trivial⟩
                  · skip
                    exfalso; omega
              · skip
                rw [c511] at p528
                rw [c353] at p528
                obtain ⟨v642, c643⟩ : ∃ v, I500 a0 9 = v := ⟨_, rfl⟩
                have b644 := iv15_9 hS509.1 ta0 c643
                rw [c643] at p529
                rw [c643] at p530
                obtain ⟨v645, c646⟩ : ∃ v, I500 a0 10 = v := ⟨_, rfl⟩
                have b647 := iv15_10 hS509.1 ta0 c646
                rw [c646] at p531
                obtain ⟨v648, c649⟩ : ∃ v, I500 a0 11 = v := ⟨_, rfl⟩
                rw [c649] at p532
                obtain ⟨y650, c651⟩ : ∃ v, L502 a0 15 = v := ⟨_, rfl⟩
                rw [c651] at p533
                obtain ⟨v652, c653⟩ : ∃ v, I500 a0 12 = v := ⟨_, rfl⟩
                rw [c653] at p534
                obtain ⟨v654, c655⟩ : ∃ v, I500 a0 8 = v := ⟨_, rfl⟩
                have b656 := iv15_8 hS509.1 ta0 c655
                rw [c655] at p535
                refine q_if_eq 59 dX12_readTurner_52 (by decide) (fun h657 => ?_) (fun h657 => ?_)
                · skip
                  refine tr_aload_n dX12_readTurner_59 rfl ?_
                  refine tr_ldcS dX12_readTurner_60 ld12_178 ?_
                  refine q_callVi hE (M' := mX12_eatsWord) (as := [_]) dX12_readTurner_62 lk12_290 inX12_eatsWord seX12_eatsWord myX12_eatsWord (by decide) ⟨by decide, by decide⟩ rfl (kR15 hS509.1 ta0) (Nat.le_of_ble_eq_true rfl) rfl rfl (by decide) (by decide) (fk_X12_eatsWord hS509.1 (gB) ((tkN gB (tkN gB gs))) ta0 (by decide) (TxA.kp hT hS509 ta0 rfl rfl rfl (by decide +kernel) (by decide +kernel)) (by (try rw [c643]); first | done | with_reducible assumption | omega) (by (try rw [c643]); first | done | with_reducible assumption | omega) (by (try rw [c646]); first | done | with_reducible assumption | omega) (by (try rw [c649]); first | done | with_reducible assumption | omega) (by (try rw [c651]); first | done | assumption) (by (try rw [c653]); first | done | assumption) (by (try rw [c655]); first | done | assumption) (by (try rw [((hS509.cell ta0 (by decide +kernel)).trans c26)]); first | done | with_reducible assumption | omega)) ?_
                  rintro v663 cn' K' N' I658 R659 L660 ⟨rfl, rfl, rfl, rfl, g661, gl662, h664, dj665, -⟩
                  (try rw [pk_0] at dj665)
                  have hM666 : NmM I658 R0 L502 a1 gQ := NmM.kpS hM514 g661 hS509.1 ta1 (by decide +kernel) (by decide +kernel)
                  have hS667 := hS509.tr g661 (by decide +kernel) (by decide +kernel)
                  have c668 : I658 a1 4 = v45 := (g661.cell ta1 (by decide +kernel)).trans c510
                  have c669 : I658 a0 13 = v167 := (g661.cell ta0 (by decide +kernel)).trans c511
                  have hO670 : FrO 14 a1 T I0 I658 := hO512.st g661 (by decide +kernel)
                  have hL671 := hL513.tr gl662 (by decide +kernel)
                  have hM672 : NmM I658 R0 L660 a1 gQ := NmM.kpL hM666 gl662 hS667.1 ta1 (by decide +kernel)
                  rcases dj665 with ⟨p673, p674, p675, p676, p677, p678, p679, p680, p681, p682, p683, -⟩ | ⟨p684, p685, p686, p687, p688, p689, p690, p691, p692, p693, -⟩
                  · skip
                    rw [c669] at p676
                    rw [c511] at p676
                    obtain ⟨v694, c695⟩ : ∃ v, I658 a0 9 = v := ⟨_, rfl⟩
                    have b696 := iv15_9 hS667.1 ta0 c695
                    rw [c695] at p677
                    rw [c695] at p678
                    obtain ⟨v697, c698⟩ : ∃ v, I658 a0 10 = v := ⟨_, rfl⟩
                    have b699 := iv15_10 hS667.1 ta0 c698
                    rw [c698] at p679
                    obtain ⟨v700, c701⟩ : ∃ v, I658 a0 11 = v := ⟨_, rfl⟩
                    rw [c701] at p680
                    obtain ⟨y702, c703⟩ : ∃ v, L660 a0 15 = v := ⟨_, rfl⟩
                    rw [c703] at p681
                    obtain ⟨v704, c705⟩ : ∃ v, I658 a0 12 = v := ⟨_, rfl⟩
                    rw [c705] at p682
                    obtain ⟨v706, c707⟩ : ∃ v, I658 a0 8 = v := ⟨_, rfl⟩
                    have b708 := iv15_8 hS667.1 ta0 c707
                    rw [c707] at p683
                    refine q_if_eq 72 dX12_readTurner_65 (by decide) (fun h709 => ?_) (fun h709 => ?_)
                    · skip
                      exfalso; omega
                    · skip
                      refine q_iconst dX12_readTurner_68 (by decide) ?_
                      intro v710 h711
                      refine tr_goto 73 dX12_readTurner_69 (by decide) ?_
                      refine tr_istore_n dX12_readTurner_73 (by decide) (by decide) ?_
                      have kd712 : tkd gB (tkN gB (tkN gB gs)) = 3 := by simp [tkd, (show tkK gB (tkN gB (tkN gB gs)) = 1 by omega), (show tkW gB (tkN gB (tkN gB gs)) = 1490073635 by omega)]
                      have kd712x : tkd gB (tkN gB (tkN gB gs)) = v710.toInt := by omega
                      refine tr_iload_n dX12_readTurner_74 rfl ?_
                      refine q_iconst dX12_readTurner_75 (by decide) ?_
                      intro v713 h714
                      refine q_icmp_ne 84 dX12_readTurner_76 (by decide) (fun h715 => ?_) (fun h715 => ?_)
                      · skip
                        refine sf_tuL hE hZ hS667.1 (gB) (gs) (gQ) ta0 (by omega) (TxA.kp hT hS667 ta0 rfl rfl rfl (by decide +kernel) (by decide +kernel)) (fun b hb => (Option.some.inj (d2.symm.trans hb)) ▸ hM672) (by (try rw [c695]); first | done | with_reducible assumption | omega) (by (try rw [c695]); first | done | with_reducible assumption | omega) (by (try rw [c698]); first | done | with_reducible assumption | omega) (by (try rw [c701]); first | done | with_reducible assumption | omega) (by (try rw [c703]); first | done | assumption) (by (try rw [c705]); first | done | assumption) (by (try rw [c707]); first | done | assumption) (by (try rw [((hS667.cell ta0 (by decide +kernel)).trans c26)]); first | done | with_reducible assumption | omega) (fun q0 z0 => by obtain rfl := Option.some.inj ((d2).symm.trans z0); (try rw [((hS667.cell ta1 (by decide +kernel)).trans c30)]); first | done | with_reducible assumption | omega) (fun q0 z0 => by obtain rfl := Option.some.inj ((d2).symm.trans z0); (try rw [((hS667.cell ta1 (by decide +kernel)).trans c34)]); first | done | with_reducible assumption | omega) (fun q0 z0 => by obtain rfl := Option.some.inj ((d2).symm.trans z0); (try rw [((hS667.cell ta1 (by decide +kernel)).trans c38)]); first | done | with_reducible assumption | omega) (fun q0 z0 => by obtain rfl := Option.some.inj ((d2).symm.trans z0); (try rw [((hS667.cell ta1 (by decide +kernel)).trans c42)]); first | done | with_reducible assumption | omega) (fun q0 z0 => by obtain rfl := Option.some.inj ((d2).symm.trans z0); (try rw [c668]); first | done | with_reducible assumption | omega) (fun q0 z0 => by obtain rfl := Option.some.inj ((d2).symm.trans z0); (try rw [((hS667.cell ta1 (by decide +kernel)).trans c50)]); first | done | with_reducible assumption | omega) (fun q0 z0 => by obtain rfl := Option.some.inj ((d2).symm.trans z0); (try rw [((hS667.cell ta1 (by decide +kernel)).trans c54)]); first | done | with_reducible assumption | omega) (fun q0 z0 => by obtain rfl := Option.some.inj ((d2).symm.trans z0); (try rw [((hS667.cell ta1 (by decide +kernel)).trans c58)]); first | done | with_reducible assumption | omega) (by first | done | assumption) (by first | done | with_reducible assumption | omega) (by first | done | with_reducible assumption | omega) (by first | done | with_reducible assumption | omega) (by first | done | with_reducible assumption | omega) (by first | done | with_reducible assumption | omega) (by first | done | with_reducible assumption | omega) (by first | done | with_reducible assumption | omega) (by first | done | with_reducible assumption | omega) (by first | done | with_reducible assumption | omega) ⟨_, d2⟩ rfl rfl rfl ?_
                        rintro I716 R717 L718 ⟨g719, rp720, dj721, -⟩
                        obtain rfl : R0 = R717 := funext fun a => funext fun j => (g719.2.2 a j (wm_no rfl)).symm
                        have hS722 := hS667.tr g719 (by decide +kernel) (by decide +kernel)
                        have hO723 : FrO 14 a1 T I0 I716 := hO670.tr (rp720 _ d2)
                        rcases dj721 with ⟨p724, p725, p726, p727, p728, p729, p730, p731, p732, p733, p734, p735, p736, p737, p738, p739, p740, gl741, rp742, -⟩ | ⟨p743, p744, p745, p746, -⟩
                        · skip
                          have hL747 := hL671.tr gl741 (by decide +kernel)
                          have p748 := p725 _ d2
                          clear p725
                          rw [((hS722.cell ta1 (by decide +kernel)).trans c30)] at p748
                          have p749 := p726 _ d2
                          clear p726
                          rw [((hS722.cell ta1 (by decide +kernel)).trans c34)] at p749
                          have p750 := p727 _ d2
                          clear p727
                          rw [((hS722.cell ta1 (by decide +kernel)).trans c38)] at p750
                          have p751 := p728 _ d2
                          clear p728
                          rw [((hS722.cell ta1 (by decide +kernel)).trans c42)] at p751
                          obtain ⟨v752, c753⟩ : ∃ v, I716 a1 4 = v := ⟨_, rfl⟩
                          have b754 := iv14_4 hS722.1 ta1 c753
                          have p755 := p729 _ d2
                          clear p729
                          rw [c753] at p755
                          have p756 := p730 _ d2
                          clear p730
                          rw [((hS722.cell ta1 (by decide +kernel)).trans c50)] at p756
                          have p757 := p731 _ d2
                          clear p731
                          rw [((hS722.cell ta1 (by decide +kernel)).trans c54)] at p757
                          have p758 := p732 _ d2
                          clear p732
                          rw [((hS722.cell ta1 (by decide +kernel)).trans c58)] at p758
                          obtain ⟨v759, c760⟩ : ∃ v, I716 a0 13 = v := ⟨_, rfl⟩
                          rw [c760] at p733
                          rw [c669] at p733
                          obtain ⟨v761, c762⟩ : ∃ v, I716 a0 9 = v := ⟨_, rfl⟩
                          have b763 := iv15_9 hS722.1 ta0 c762
                          rw [c762] at p734
                          rw [c762] at p735
                          obtain ⟨v764, c765⟩ : ∃ v, I716 a0 10 = v := ⟨_, rfl⟩
                          have b766 := iv15_10 hS722.1 ta0 c765
                          rw [c765] at p736
                          obtain ⟨v767, c768⟩ : ∃ v, I716 a0 11 = v := ⟨_, rfl⟩
                          rw [c768] at p737
                          obtain ⟨y769, c770⟩ : ∃ v, L718 a0 15 = v := ⟨_, rfl⟩
                          rw [c770] at p738
                          obtain ⟨v771, c772⟩ : ∃ v, I716 a0 12 = v := ⟨_, rfl⟩
                          rw [c772] at p739
                          obtain ⟨v773, c774⟩ : ∃ v, I716 a0 8 = v := ⟨_, rfl⟩
                          have b775 := iv15_8 hS722.1 ta0 c774
                          rw [c774] at p740
                          obtain ⟨v776, c777⟩ : ∃ v, I716 a0 14 = v := ⟨_, rfl⟩
                          exact ⟨rfl, rfl, rfl, rfl, rfl, hS722, (fun dr hd => (Option.some.inj (d2.symm.trans hd)) ▸ hO723), (Or.inl ⟨(by first | done | with_reducible assumption | omega), (fun q0 z0 => by obtain rfl := Option.some.inj ((d2).symm.trans z0); (try rw [((hS722.cell ta1 (by decide +kernel)).trans c30)]); first | done | with_reducible assumption | omega), (fun q0 z0 => by obtain rfl := Option.some.inj ((d2).symm.trans z0); (try rw [((hS722.cell ta1 (by decide +kernel)).trans c34)]); first | done | with_reducible assumption | omega), (fun q0 z0 => by obtain rfl := Option.some.inj ((d2).symm.trans z0); (try rw [((hS722.cell ta1 (by decide +kernel)).trans c38)]); first | done | with_reducible assumption | omega), (fun q0 z0 => by obtain rfl := Option.some.inj ((d2).symm.trans z0); (try rw [((hS722.cell ta1 (by decide +kernel)).trans c42)]); first | done | with_reducible assumption | omega), (fun q0 z0 => by obtain rfl := Option.some.inj ((d2).symm.trans z0); (try rw [c753]); first | done | with_reducible assumption | omega), (fun q0 z0 => by obtain rfl := Option.some.inj ((d2).symm.trans z0); (try rw [((hS722.cell ta1 (by decide +kernel)).trans c50)]); first | done | with_reducible assumption | omega), (fun q0 z0 => by obtain rfl := Option.some.inj ((d2).symm.trans z0); (try rw [((hS722.cell ta1 (by decide +kernel)).trans c54)]); first | done | with_reducible assumption | omega), (fun q0 z0 => by obtain rfl := Option.some.inj ((d2).symm.trans z0); (try rw [((hS722.cell ta1 (by decide +kernel)).trans c58)]); first | done | with_reducible assumption | omega), (by (try rw [c760]); (try rw [c65]); first | done | with_reducible assumption | omega), (by (try rw [c762]); first | done | with_reducible assumption | omega), (by (try rw [c762]); first | done | with_reducible assumption | omega), (by (try rw [c765]); first | done | with_reducible assumption | omega), (by (try rw [c768]); first | done | with_reducible assumption | omega), (by (try rw [c770]); first | done | assumption), (by (try rw [c772]); first | done | assumption), (by (try rw [c774]); first | done | assumption), hL747, rp742, trivial⟩), trivial⟩
                        · skip
                          obtain ⟨v778, c779⟩ : ∃ v, I716 a0 9 = v := ⟨_, rfl⟩
                          have b780 := iv15_9 hS722.1 ta0 c779
                          rw [c779] at p744
                          obtain ⟨v781, c782⟩ : ∃ v, I716 a0 13 = v := ⟨_, rfl⟩
                          rw [c782] at p745
                          obtain ⟨v783, c784⟩ : ∃ v, I716 a0 14 = v := ⟨_, rfl⟩
                          rw [c784] at p746
                          obtain ⟨v785, c786⟩ : ∃ v, I716 a1 4 = v := ⟨_, rfl⟩
                          have b787 := iv14_4 hS722.1 ta1 c786
                          obtain ⟨v788, c789⟩ : ∃ v, I716 a0 10 = v := ⟨_, rfl⟩
                          have b790 := iv15_10 hS722.1 ta0 c789
                          obtain ⟨v791, c792⟩ : ∃ v, I716 a0 11 = v := ⟨_, rfl⟩
                          obtain ⟨y793, c794⟩ : ∃ v, L718 a0 15 = v := ⟨_, rfl⟩
                          obtain ⟨v795, c796⟩ : ∃ v, I716 a0 12 = v := ⟨_, rfl⟩
                          obtain ⟨v797, c798⟩ : ∃ v, I716 a0 8 = v := ⟨_, rfl⟩
                          have b799 := iv15_8 hS722.1 ta0 c798
                          exact ⟨rfl, rfl, rfl, rfl, rfl, hS722, (fun dr hd => (Option.some.inj (d2.symm.trans hd)) ▸ hO723), (Or.inr (⟨(by first | done | with_reducible assumption | omega), (by (try rw [c779]); first | done | with_reducible assumption | omega), (by (try rw [c782]); first | done | with_reducible assumption | omega), (by (try rw [c784]); first | done | with_reducible assumption | omega), trivial⟩)), trivial⟩
                      · skip
                        exfalso; omega
                  · skip
                    rw [c669] at p686
                    rw [c511] at p686
                    obtain ⟨v800, c801⟩ : ∃ v, I658 a0 9 = v := ⟨_, rfl⟩
                    have b802 := iv15_9 hS667.1 ta0 c801
                    rw [c801] at p687
                    rw [c801] at p688
                    obtain ⟨v803, c804⟩ : ∃ v, I658 a0 10 = v := ⟨_, rfl⟩
                    have b805 := iv15_10 hS667.1 ta0 c804
                    rw [c804] at p689
                    obtain ⟨v806, c807⟩ : ∃ v, I658 a0 11 = v := ⟨_, rfl⟩
                    rw [c807] at p690
                    obtain ⟨y808, c809⟩ : ∃ v, L660 a0 15 = v := ⟨_, rfl⟩
                    rw [c809] at p691
                    obtain ⟨v810, c811⟩ : ∃ v, I658 a0 12 = v := ⟨_, rfl⟩
                    rw [c811] at p692
                    obtain ⟨v812, c813⟩ : ∃ v, I658 a0 8 = v := ⟨_, rfl⟩
                    have b814 := iv15_8 hS667.1 ta0 c813
                    rw [c813] at p693
                    refine q_if_eq 72 dX12_readTurner_65 (by decide) (fun h815 => ?_) (fun h815 => ?_)
                    · skip
                      refine q_iconst dX12_readTurner_72 (by decide) ?_
                      intro v816 h817
                      refine tr_istore_n dX12_readTurner_73 (by decide) (by decide) ?_
                      have kd818 : tkd gB (tkN gB (tkN gB gs)) = -1 := tkd_no p211 p369 p527 p685
                      have kd818x : tkd gB (tkN gB (tkN gB gs)) = v816.toInt := by omega
                      refine tr_iload_n dX12_readTurner_74 rfl ?_
                      refine q_iconst dX12_readTurner_75 (by decide) ?_
                      intro v819 h820
                      refine q_icmp_ne 84 dX12_readTurner_76 (by decide) (fun h821 => ?_) (fun h821 => ?_)
                      · skip
                        exfalso; omega
                      · skip
                        replace hF := hF.pos (by omega)
                        replace hP := hP.pos (by omega)
                        refine tr_aload_n dX12_readTurner_79 rfl ?_
                        refine q_iconst dX12_readTurner_80 (by decide) ?_
                        intro v822 h823
                        refine q_callVv hE (M' := mX12_flaw) (as := [_]) dX12_readTurner_81 lk12_145 inX12_flaw seX12_flaw myX12_flaw (by decide) ⟨by decide, by decide⟩ rfl (kR15 hS667.1 ta0) (Nat.le_of_ble_eq_true rfl) rfl rfl (by decide) (by decide) (fk_X12_flaw hS667.1  ta0 (by omega) (by (try rw [c801]); first | done | with_reducible assumption | omega)) ?_
                        rintro cn' K' N' I824 R825 L826 ⟨rfl, rfl, rfl, rfl, rfl, g827, p830, p831, p832, -⟩
                        have hM833 : NmM I824 R0 L660 a1 gQ := NmM.kpS hM672 g827 hS667.1 ta1 (by decide +kernel) (by decide +kernel)
                        have hS834 := hS667.tr g827 (by decide +kernel) (by decide +kernel)
                        have c835 : I824 a1 4 = v45 := (g827.cell ta1 (by decide +kernel)).trans c668
                        have c836 : I824 a0 10 = v803 := (g827.cell ta0 (by decide +kernel)).trans c804
                        have c837 : I824 a0 11 = v806 := (g827.cell ta0 (by decide +kernel)).trans c807
                        have c838 : I824 a0 12 = v810 := (g827.cell ta0 (by decide +kernel)).trans c811
                        have c839 : I824 a0 8 = v812 := (g827.cell ta0 (by decide +kernel)).trans c813
                        have hO840 : FrO 14 a1 T I0 I824 := hO670.st g827 (by decide +kernel)
                        obtain ⟨v841, c842⟩ : ∃ v, I824 a0 9 = v := ⟨_, rfl⟩
                        have b843 := iv15_9 hS834.1 ta0 c842
                        rw [c842] at p830
                        obtain ⟨v844, c845⟩ : ∃ v, I824 a0 13 = v := ⟨_, rfl⟩
                        rw [c845] at p831
                        obtain ⟨v846, c847⟩ : ∃ v, I824 a0 14 = v := ⟨_, rfl⟩
                        rw [c847] at p832
                        rw [c804] at p832
                        refine sf_tuO hE hZ hS834.1 (gB) ta0 (by (try rw [c842]); first | done | with_reducible assumption | omega) ⟨_, d2⟩ rfl rfl rfl ?_
                        rintro I848 R849 L850 ⟨g851, p852, p853, p854, -⟩
                        obtain rfl : R0 = R849 := funext fun a => funext fun j => (g851.2.2 a j (wm_no rfl)).symm
                        have hS855 := hS834.tr g851 (by decide +kernel) (by decide +kernel)
                        have c856 : I848 a1 4 = v45 := (g851.cell ta1 (by decide +kernel)).trans c835
                        have hO857 : FrO 14 a1 T I0 I848 := hO840.st g851 (by decide +kernel)
                        obtain ⟨v858, c859⟩ : ∃ v, I848 a0 9 = v := ⟨_, rfl⟩
                        have b860 := iv15_9 hS855.1 ta0 c859
                        rw [c859] at p852
                        obtain ⟨v861, c862⟩ : ∃ v, I848 a0 13 = v := ⟨_, rfl⟩
                        rw [c862] at p853
                        rw [c845] at p853
                        obtain ⟨v863, c864⟩ : ∃ v, I848 a0 14 = v := ⟨_, rfl⟩
                        rw [c864] at p854
                        rw [c847] at p854
                        have eF := hF.eq
                        have eP := hP.eq
                        obtain ⟨v865, c866⟩ : ∃ v, I848 a0 10 = v := ⟨_, rfl⟩
                        have b867 := iv15_10 hS855.1 ta0 c866
                        obtain ⟨v868, c869⟩ : ∃ v, I848 a0 11 = v := ⟨_, rfl⟩
                        obtain ⟨y870, c871⟩ : ∃ v, L850 a0 15 = v := ⟨_, rfl⟩
                        obtain ⟨v872, c873⟩ : ∃ v, I848 a0 12 = v := ⟨_, rfl⟩
                        obtain ⟨v874, c875⟩ : ∃ v, I848 a0 8 = v := ⟨_, rfl⟩
                        have b876 := iv15_8 hS855.1 ta0 c875
                        exact ⟨rfl, rfl, rfl, rfl, rfl, hS855, (fun dr hd => (Option.some.inj (d2.symm.trans hd)) ▸ hO857), (Or.inr (⟨(by first | done | with_reducible assumption | omega), (by (try rw [c859]); first | done | with_reducible assumption | omega), (by (try rw [c862]); first | done | with_reducible assumption | omega), (by (try rw [c864]); first | done | with_reducible assumption | omega), trivial⟩)), trivial⟩
                    · skip
                      exfalso; omega
                · skip
                  exfalso; omega
            · skip
              exfalso; omega
        · skip
          exfalso; omega
    · skip
      obtain ⟨v877, c878⟩ : ∃ v, I131 a0 9 = v := ⟨_, rfl⟩
      have b879 := iv15_9 hS139.1 ta0 c878
      rw [c878] at p157
      obtain ⟨v880, c881⟩ : ∃ v, I131 a0 13 = v := ⟨_, rfl⟩
      rw [c881] at p158
      obtain ⟨v882, c883⟩ : ∃ v, I131 a0 14 = v := ⟨_, rfl⟩
      rw [c883] at p159
      replace hF := hF.pos (by omega)
      replace hP := hP.pos (by omega)
      refine tr_lstore_n dX12_readTurner_16 (by decide) (by decide) (by decide) ?_
      refine tr_aload_n dX12_readTurner_17 rfl ?_
      refine tr_ldcwS dX12_readTurner_18 ld12_318 ?_
      refine q_callVi hE (M' := mX12_eatsWord) (as := [_]) dX12_readTurner_21 lk12_290 inX12_eatsWord seX12_eatsWord myX12_eatsWord (by decide) ⟨by decide, by decide⟩ rfl (kR15 hS139.1 ta0) (Nat.le_of_ble_eq_true rfl) rfl rfl (by decide) (by decide) (k_X12_eatsWord hS139.1 ta0 (by decide)) ?_
      rintro v888 cn' K' N' I884 R885 L886 ⟨rfl, rfl, rfl, rfl, g887, h889, w890, -⟩
      have hS891 := hS139.tr g887 (by decide +kernel) (by decide +kernel)
      have c892 : I884 a1 4 = v45 := (g887.cell ta1 (by decide +kernel)).trans c140
      have c893 : I884 a0 13 = v880 := (g887.cell ta0 (by decide +kernel)).trans c881
      have c894 : I884 a0 14 = v882 := (g887.cell ta0 (by decide +kernel)).trans c883
      have hO895 : FrO 14 a1 T I0 I884 := hO141.st g887 (by decide +kernel)
      have ov896 := w890.over (by rw [c878]; omega)
      obtain ⟨v897, c898⟩ : ∃ v, I884 a0 9 = v := ⟨_, rfl⟩
      have b899 := iv15_9 hS891.1 ta0 c898
      obtain ⟨v900, c901⟩ : ∃ v, I884 a0 13 = v := ⟨_, rfl⟩
      obtain ⟨v902, c903⟩ : ∃ v, I884 a0 14 = v := ⟨_, rfl⟩
      (try rw [c898] at ov896)
      (try rw [c901] at ov896)
      (try rw [c903] at ov896)
      (try rw [c878] at ov896)
      (try rw [c881] at ov896)
      (try rw [c883] at ov896)
      refine q_if_eq 31 dX12_readTurner_24 (by decide) (fun h904 => ?_) (fun h904 => ?_)
      · skip
        refine tr_aload_n dX12_readTurner_31 rfl ?_
        refine tr_ldcwS dX12_readTurner_32 ld12_320 ?_
        refine q_callVi hE (M' := mX12_eatsWord) (as := [_]) dX12_readTurner_35 lk12_290 inX12_eatsWord seX12_eatsWord myX12_eatsWord (by decide) ⟨by decide, by decide⟩ rfl (kR15 hS891.1 ta0) (Nat.le_of_ble_eq_true rfl) rfl rfl (by decide) (by decide) (k_X12_eatsWord hS891.1 ta0 (by decide)) ?_
        rintro v909 cn' K' N' I905 R906 L907 ⟨rfl, rfl, rfl, rfl, g908, h910, w911, -⟩
        have hS912 := hS891.tr g908 (by decide +kernel) (by decide +kernel)
        have c913 : I905 a1 4 = v45 := (g908.cell ta1 (by decide +kernel)).trans c892
        have c914 : I905 a0 13 = v900 := (g908.cell ta0 (by decide +kernel)).trans c901
        have c915 : I905 a0 14 = v902 := (g908.cell ta0 (by decide +kernel)).trans c903
        have hO916 : FrO 14 a1 T I0 I905 := hO895.st g908 (by decide +kernel)
        have ov917 := w911.over (by rw [c898]; omega)
        obtain ⟨v918, c919⟩ : ∃ v, I905 a0 9 = v := ⟨_, rfl⟩
        have b920 := iv15_9 hS912.1 ta0 c919
        obtain ⟨v921, c922⟩ : ∃ v, I905 a0 13 = v := ⟨_, rfl⟩
        obtain ⟨v923, c924⟩ : ∃ v, I905 a0 14 = v := ⟨_, rfl⟩
        (try rw [c919] at ov917)
        (try rw [c922] at ov917)
        (try rw [c924] at ov917)
        (try rw [c898] at ov917)
        (try rw [c901] at ov917)
        (try rw [c903] at ov917)
        refine q_if_eq 45 dX12_readTurner_38 (by decide) (fun h925 => ?_) (fun h925 => ?_)
        · skip
          refine tr_aload_n dX12_readTurner_45 rfl ?_
          refine tr_ldcwS dX12_readTurner_46 ld12_322 ?_
          refine q_callVi hE (M' := mX12_eatsWord) (as := [_]) dX12_readTurner_49 lk12_290 inX12_eatsWord seX12_eatsWord myX12_eatsWord (by decide) ⟨by decide, by decide⟩ rfl (kR15 hS912.1 ta0) (Nat.le_of_ble_eq_true rfl) rfl rfl (by decide) (by decide) (k_X12_eatsWord hS912.1 ta0 (by decide)) ?_
          rintro v930 cn' K' N' I926 R927 L928 ⟨rfl, rfl, rfl, rfl, g929, h931, w932, -⟩
          have hS933 := hS912.tr g929 (by decide +kernel) (by decide +kernel)
          have c934 : I926 a1 4 = v45 := (g929.cell ta1 (by decide +kernel)).trans c913
          have c935 : I926 a0 13 = v921 := (g929.cell ta0 (by decide +kernel)).trans c922
          have c936 : I926 a0 14 = v923 := (g929.cell ta0 (by decide +kernel)).trans c924
          have hO937 : FrO 14 a1 T I0 I926 := hO916.st g929 (by decide +kernel)
          have ov938 := w932.over (by rw [c919]; omega)
          obtain ⟨v939, c940⟩ : ∃ v, I926 a0 9 = v := ⟨_, rfl⟩
          have b941 := iv15_9 hS933.1 ta0 c940
          obtain ⟨v942, c943⟩ : ∃ v, I926 a0 13 = v := ⟨_, rfl⟩
          obtain ⟨v944, c945⟩ : ∃ v, I926 a0 14 = v := ⟨_, rfl⟩
          (try rw [c940] at ov938)
          (try rw [c943] at ov938)
          (try rw [c945] at ov938)
          (try rw [c919] at ov938)
          (try rw [c922] at ov938)
          (try rw [c924] at ov938)
          refine q_if_eq 59 dX12_readTurner_52 (by decide) (fun h946 => ?_) (fun h946 => ?_)
          · skip
            refine tr_aload_n dX12_readTurner_59 rfl ?_
            refine tr_ldcS dX12_readTurner_60 ld12_178 ?_
            refine q_callVi hE (M' := mX12_eatsWord) (as := [_]) dX12_readTurner_62 lk12_290 inX12_eatsWord seX12_eatsWord myX12_eatsWord (by decide) ⟨by decide, by decide⟩ rfl (kR15 hS933.1 ta0) (Nat.le_of_ble_eq_true rfl) rfl rfl (by decide) (by decide) (k_X12_eatsWord hS933.1 ta0 (by decide)) ?_
            rintro v951 cn' K' N' I947 R948 L949 ⟨rfl, rfl, rfl, rfl, g950, h952, w953, -⟩
            have hS954 := hS933.tr g950 (by decide +kernel) (by decide +kernel)
            have c955 : I947 a1 4 = v45 := (g950.cell ta1 (by decide +kernel)).trans c934
            have c956 : I947 a0 13 = v942 := (g950.cell ta0 (by decide +kernel)).trans c943
            have c957 : I947 a0 14 = v944 := (g950.cell ta0 (by decide +kernel)).trans c945
            have hO958 : FrO 14 a1 T I0 I947 := hO937.st g950 (by decide +kernel)
            have ov959 := w953.over (by rw [c940]; omega)
            obtain ⟨v960, c961⟩ : ∃ v, I947 a0 9 = v := ⟨_, rfl⟩
            have b962 := iv15_9 hS954.1 ta0 c961
            obtain ⟨v963, c964⟩ : ∃ v, I947 a0 13 = v := ⟨_, rfl⟩
            obtain ⟨v965, c966⟩ : ∃ v, I947 a0 14 = v := ⟨_, rfl⟩
            (try rw [c961] at ov959)
            (try rw [c964] at ov959)
            (try rw [c966] at ov959)
            (try rw [c940] at ov959)
            (try rw [c943] at ov959)
            (try rw [c945] at ov959)
            refine q_if_eq 72 dX12_readTurner_65 (by decide) (fun h967 => ?_) (fun h967 => ?_)
            · skip
              refine q_iconst dX12_readTurner_72 (by decide) ?_
              intro v968 h969
              refine tr_istore_n dX12_readTurner_73 (by decide) (by decide) ?_
              refine tr_iload_n dX12_readTurner_74 rfl ?_
              refine q_iconst dX12_readTurner_75 (by decide) ?_
              intro v970 h971
              refine q_icmp_ne 84 dX12_readTurner_76 (by decide) (fun h972 => ?_) (fun h972 => ?_)
              · skip
                exfalso; omega
              · skip
                refine tr_aload_n dX12_readTurner_79 rfl ?_
                refine q_iconst dX12_readTurner_80 (by decide) ?_
                intro v973 h974
                obtain ⟨v975, c976⟩ : ∃ v, I947 a0 8 = v := ⟨_, rfl⟩
                have b977 := iv15_8 hS954.1 ta0 c976
                refine q_callVv hE (M' := mX12_flaw) (as := [_]) dX12_readTurner_81 lk12_145 inX12_flaw seX12_flaw myX12_flaw (by decide) ⟨by decide, by decide⟩ rfl (kR15 hS954.1 ta0) (Nat.le_of_ble_eq_true rfl) rfl rfl (by decide) (by decide) (k_X12_flaw hS954.1 ta0 (by omega)) ?_
                rintro cn' K' N' I978 R979 L980 ⟨rfl, rfl, rfl, rfl, rfl, g981, p983, p984, w985, -⟩
                have hS986 := hS954.tr g981 (by decide +kernel) (by decide +kernel)
                have c987 : I978 a1 4 = v45 := (g981.cell ta1 (by decide +kernel)).trans c955
                have c988 : I978 a0 8 = v975 := (g981.cell ta0 (by decide +kernel)).trans c976
                obtain ⟨v989, c990⟩ : ∃ v, I978 a0 9 = v := ⟨_, rfl⟩
                have b991 := iv15_9 hS986.1 ta0 c990
                rw [c990] at p983
                rw [c988] at p984
                rw [c976] at p984
                have hO992 : FrO 14 a1 T I0 I978 := hO958.st g981 (by decide +kernel)
                have ov993 := w985.over (by rw [c961]; omega)
                obtain ⟨v994, c995⟩ : ∃ v, I978 a0 9 = v := ⟨_, rfl⟩
                have b996 := iv15_9 hS986.1 ta0 c995
                obtain ⟨v997, c998⟩ : ∃ v, I978 a0 13 = v := ⟨_, rfl⟩
                obtain ⟨v999, c1000⟩ : ∃ v, I978 a0 14 = v := ⟨_, rfl⟩
                (try rw [c995] at ov993)
                (try rw [c998] at ov993)
                (try rw [c1000] at ov993)
                (try rw [c961] at ov993)
                (try rw [c964] at ov993)
                (try rw [c966] at ov993)
                refine sf_tuO hE hZ hS986.1 (gB) ta0 (by (try rw [c995]); first | done | with_reducible assumption | omega) ⟨_, d2⟩ rfl rfl rfl ?_
                rintro I1001 R1002 L1003 ⟨g1004, p1005, p1006, p1007, -⟩
                obtain rfl : R0 = R1002 := funext fun a => funext fun j => (g1004.2.2 a j (wm_no rfl)).symm
                have hS1008 := hS986.tr g1004 (by decide +kernel) (by decide +kernel)
                have c1009 : I1001 a1 4 = v45 := (g1004.cell ta1 (by decide +kernel)).trans c987
                have hO1010 : FrO 14 a1 T I0 I1001 := hO992.st g1004 (by decide +kernel)
                obtain ⟨v1011, c1012⟩ : ∃ v, I1001 a0 9 = v := ⟨_, rfl⟩
                have b1013 := iv15_9 hS1008.1 ta0 c1012
                rw [c1012] at p1005
                obtain ⟨v1014, c1015⟩ : ∃ v, I1001 a0 13 = v := ⟨_, rfl⟩
                rw [c1015] at p1006
                rw [c998] at p1006
                obtain ⟨v1016, c1017⟩ : ∃ v, I1001 a0 14 = v := ⟨_, rfl⟩
                rw [c1017] at p1007
                rw [c1000] at p1007
                have eF := hF.eq
                have eP := hP.eq
                obtain ⟨v1018, c1019⟩ : ∃ v, I1001 a0 10 = v := ⟨_, rfl⟩
                have b1020 := iv15_10 hS1008.1 ta0 c1019
                obtain ⟨v1021, c1022⟩ : ∃ v, I1001 a0 11 = v := ⟨_, rfl⟩
                obtain ⟨y1023, c1024⟩ : ∃ v, L1003 a0 15 = v := ⟨_, rfl⟩
                obtain ⟨v1025, c1026⟩ : ∃ v, I1001 a0 12 = v := ⟨_, rfl⟩
                obtain ⟨v1027, c1028⟩ : ∃ v, I1001 a0 8 = v := ⟨_, rfl⟩
                have b1029 := iv15_8 hS1008.1 ta0 c1028
                exact ⟨rfl, rfl, rfl, rfl, rfl, hS1008, (fun dr hd => (Option.some.inj (d2.symm.trans hd)) ▸ hO1010), (Or.inr (⟨(by first | done | with_reducible assumption | omega), (by (try rw [c1012]); first | done | with_reducible assumption | omega), (by (try rw [c1015]); first | done | with_reducible assumption | omega), (by (try rw [c1017]); first | done | with_reducible assumption | omega), trivial⟩)), trivial⟩
            · skip
              refine q_iconst dX12_readTurner_68 (by decide) ?_
              intro v1030 h1031
              refine tr_goto 73 dX12_readTurner_69 (by decide) ?_
              refine tr_istore_n dX12_readTurner_73 (by decide) (by decide) ?_
              refine tr_iload_n dX12_readTurner_74 rfl ?_
              refine q_iconst dX12_readTurner_75 (by decide) ?_
              intro v1032 h1033
              refine q_icmp_ne 84 dX12_readTurner_76 (by decide) (fun h1034 => ?_) (fun h1034 => ?_)
              · skip
                refine sf_tuO hE hZ hS954.1 (gB) ta0 (by (try rw [c961]); first | done | with_reducible assumption | omega) ⟨_, d2⟩ rfl rfl rfl ?_
                rintro I1035 R1036 L1037 ⟨g1038, p1039, p1040, p1041, -⟩
                obtain rfl : R0 = R1036 := funext fun a => funext fun j => (g1038.2.2 a j (wm_no rfl)).symm
                have hS1042 := hS954.tr g1038 (by decide +kernel) (by decide +kernel)
                have c1043 : I1035 a1 4 = v45 := (g1038.cell ta1 (by decide +kernel)).trans c955
                have hO1044 : FrO 14 a1 T I0 I1035 := hO958.st g1038 (by decide +kernel)
                obtain ⟨v1045, c1046⟩ : ∃ v, I1035 a0 9 = v := ⟨_, rfl⟩
                have b1047 := iv15_9 hS1042.1 ta0 c1046
                rw [c1046] at p1039
                obtain ⟨v1048, c1049⟩ : ∃ v, I1035 a0 13 = v := ⟨_, rfl⟩
                rw [c1049] at p1040
                rw [c964] at p1040
                obtain ⟨v1050, c1051⟩ : ∃ v, I1035 a0 14 = v := ⟨_, rfl⟩
                rw [c1051] at p1041
                rw [c966] at p1041
                have eF := hF.eq
                have eP := hP.eq
                obtain ⟨v1052, c1053⟩ : ∃ v, I1035 a0 10 = v := ⟨_, rfl⟩
                have b1054 := iv15_10 hS1042.1 ta0 c1053
                obtain ⟨v1055, c1056⟩ : ∃ v, I1035 a0 11 = v := ⟨_, rfl⟩
                obtain ⟨y1057, c1058⟩ : ∃ v, L1037 a0 15 = v := ⟨_, rfl⟩
                obtain ⟨v1059, c1060⟩ : ∃ v, I1035 a0 12 = v := ⟨_, rfl⟩
                obtain ⟨v1061, c1062⟩ : ∃ v, I1035 a0 8 = v := ⟨_, rfl⟩
                have b1063 := iv15_8 hS1042.1 ta0 c1062
                exact ⟨rfl, rfl, rfl, rfl, rfl, hS1042, (fun dr hd => (Option.some.inj (d2.symm.trans hd)) ▸ hO1044), (Or.inr (⟨(by first | done | with_reducible assumption | omega), (by (try rw [c1046]); first | done | with_reducible assumption | omega), (by (try rw [c1049]); first | done | with_reducible assumption | omega), (by (try rw [c1051]); first | done | with_reducible assumption | omega), trivial⟩)), trivial⟩
              · skip
                exfalso; omega
          · skip
            refine q_iconst dX12_readTurner_55 (by decide) ?_
            intro v1064 h1065
            refine tr_goto 73 dX12_readTurner_56 (by decide) ?_
            refine tr_istore_n dX12_readTurner_73 (by decide) (by decide) ?_
            refine tr_iload_n dX12_readTurner_74 rfl ?_
            refine q_iconst dX12_readTurner_75 (by decide) ?_
            intro v1066 h1067
            refine q_icmp_ne 84 dX12_readTurner_76 (by decide) (fun h1068 => ?_) (fun h1068 => ?_)
            · skip
              refine sf_tuO hE hZ hS933.1 (gB) ta0 (by (try rw [c940]); first | done | with_reducible assumption | omega) ⟨_, d2⟩ rfl rfl rfl ?_
              rintro I1069 R1070 L1071 ⟨g1072, p1073, p1074, p1075, -⟩
              obtain rfl : R0 = R1070 := funext fun a => funext fun j => (g1072.2.2 a j (wm_no rfl)).symm
              have hS1076 := hS933.tr g1072 (by decide +kernel) (by decide +kernel)
              have c1077 : I1069 a1 4 = v45 := (g1072.cell ta1 (by decide +kernel)).trans c934
              have hO1078 : FrO 14 a1 T I0 I1069 := hO937.st g1072 (by decide +kernel)
              obtain ⟨v1079, c1080⟩ : ∃ v, I1069 a0 9 = v := ⟨_, rfl⟩
              have b1081 := iv15_9 hS1076.1 ta0 c1080
              rw [c1080] at p1073
              obtain ⟨v1082, c1083⟩ : ∃ v, I1069 a0 13 = v := ⟨_, rfl⟩
              rw [c1083] at p1074
              rw [c943] at p1074
              obtain ⟨v1084, c1085⟩ : ∃ v, I1069 a0 14 = v := ⟨_, rfl⟩
              rw [c1085] at p1075
              rw [c945] at p1075
              have eF := hF.eq
              have eP := hP.eq
              obtain ⟨v1086, c1087⟩ : ∃ v, I1069 a0 10 = v := ⟨_, rfl⟩
              have b1088 := iv15_10 hS1076.1 ta0 c1087
              obtain ⟨v1089, c1090⟩ : ∃ v, I1069 a0 11 = v := ⟨_, rfl⟩
              obtain ⟨y1091, c1092⟩ : ∃ v, L1071 a0 15 = v := ⟨_, rfl⟩
              obtain ⟨v1093, c1094⟩ : ∃ v, I1069 a0 12 = v := ⟨_, rfl⟩
              obtain ⟨v1095, c1096⟩ : ∃ v, I1069 a0 8 = v := ⟨_, rfl⟩
              have b1097 := iv15_8 hS1076.1 ta0 c1096
              exact ⟨rfl, rfl, rfl, rfl, rfl, hS1076, (fun dr hd => (Option.some.inj (d2.symm.trans hd)) ▸ hO1078), (Or.inr (⟨(by first | done | with_reducible assumption | omega), (by (try rw [c1080]); first | done | with_reducible assumption | omega), (by (try rw [c1083]); first | done | with_reducible assumption | omega), (by (try rw [c1085]); first | done | with_reducible assumption | omega), trivial⟩)), trivial⟩
            · skip
              exfalso; omega
        · skip
          refine q_iconst dX12_readTurner_41 (by decide) ?_
          intro v1098 h1099
          refine tr_goto 73 dX12_readTurner_42 (by decide) ?_
          refine tr_istore_n dX12_readTurner_73 (by decide) (by decide) ?_
          refine tr_iload_n dX12_readTurner_74 rfl ?_
          refine q_iconst dX12_readTurner_75 (by decide) ?_
          intro v1100 h1101
          refine q_icmp_ne 84 dX12_readTurner_76 (by decide) (fun h1102 => ?_) (fun h1102 => ?_)
          · skip
            refine sf_tuO hE hZ hS912.1 (gB) ta0 (by (try rw [c919]); first | done | with_reducible assumption | omega) ⟨_, d2⟩ rfl rfl rfl ?_
            rintro I1103 R1104 L1105 ⟨g1106, p1107, p1108, p1109, -⟩
            obtain rfl : R0 = R1104 := funext fun a => funext fun j => (g1106.2.2 a j (wm_no rfl)).symm
            have hS1110 := hS912.tr g1106 (by decide +kernel) (by decide +kernel)
            have c1111 : I1103 a1 4 = v45 := (g1106.cell ta1 (by decide +kernel)).trans c913
            have hO1112 : FrO 14 a1 T I0 I1103 := hO916.st g1106 (by decide +kernel)
            obtain ⟨v1113, c1114⟩ : ∃ v, I1103 a0 9 = v := ⟨_, rfl⟩
            have b1115 := iv15_9 hS1110.1 ta0 c1114
            rw [c1114] at p1107
            obtain ⟨v1116, c1117⟩ : ∃ v, I1103 a0 13 = v := ⟨_, rfl⟩
            rw [c1117] at p1108
            rw [c922] at p1108
            obtain ⟨v1118, c1119⟩ : ∃ v, I1103 a0 14 = v := ⟨_, rfl⟩
            rw [c1119] at p1109
            rw [c924] at p1109
            have eF := hF.eq
            have eP := hP.eq
            obtain ⟨v1120, c1121⟩ : ∃ v, I1103 a0 10 = v := ⟨_, rfl⟩
            have b1122 := iv15_10 hS1110.1 ta0 c1121
            obtain ⟨v1123, c1124⟩ : ∃ v, I1103 a0 11 = v := ⟨_, rfl⟩
            obtain ⟨y1125, c1126⟩ : ∃ v, L1105 a0 15 = v := ⟨_, rfl⟩
            obtain ⟨v1127, c1128⟩ : ∃ v, I1103 a0 12 = v := ⟨_, rfl⟩
            obtain ⟨v1129, c1130⟩ : ∃ v, I1103 a0 8 = v := ⟨_, rfl⟩
            have b1131 := iv15_8 hS1110.1 ta0 c1130
            exact ⟨rfl, rfl, rfl, rfl, rfl, hS1110, (fun dr hd => (Option.some.inj (d2.symm.trans hd)) ▸ hO1112), (Or.inr (⟨(by first | done | with_reducible assumption | omega), (by (try rw [c1114]); first | done | with_reducible assumption | omega), (by (try rw [c1117]); first | done | with_reducible assumption | omega), (by (try rw [c1119]); first | done | with_reducible assumption | omega), trivial⟩)), trivial⟩
          · skip
            exfalso; omega
      · skip
        refine q_iconst dX12_readTurner_27 (by decide) ?_
        intro v1132 h1133
        refine tr_goto 73 dX12_readTurner_28 (by decide) ?_
        refine tr_istore_n dX12_readTurner_73 (by decide) (by decide) ?_
        refine tr_iload_n dX12_readTurner_74 rfl ?_
        refine q_iconst dX12_readTurner_75 (by decide) ?_
        intro v1134 h1135
        refine q_icmp_ne 84 dX12_readTurner_76 (by decide) (fun h1136 => ?_) (fun h1136 => ?_)
        · skip
          refine sf_tuO hE hZ hS891.1 (gB) ta0 (by (try rw [c898]); first | done | with_reducible assumption | omega) ⟨_, d2⟩ rfl rfl rfl ?_
          rintro I1137 R1138 L1139 ⟨g1140, p1141, p1142, p1143, -⟩
          obtain rfl : R0 = R1138 := funext fun a => funext fun j => (g1140.2.2 a j (wm_no rfl)).symm
          have hS1144 := hS891.tr g1140 (by decide +kernel) (by decide +kernel)
          have c1145 : I1137 a1 4 = v45 := (g1140.cell ta1 (by decide +kernel)).trans c892
          have hO1146 : FrO 14 a1 T I0 I1137 := hO895.st g1140 (by decide +kernel)
          obtain ⟨v1147, c1148⟩ : ∃ v, I1137 a0 9 = v := ⟨_, rfl⟩
          have b1149 := iv15_9 hS1144.1 ta0 c1148
          rw [c1148] at p1141
          obtain ⟨v1150, c1151⟩ : ∃ v, I1137 a0 13 = v := ⟨_, rfl⟩
          rw [c1151] at p1142
          rw [c901] at p1142
          obtain ⟨v1152, c1153⟩ : ∃ v, I1137 a0 14 = v := ⟨_, rfl⟩
          rw [c1153] at p1143
          rw [c903] at p1143
          have eF := hF.eq
          have eP := hP.eq
          obtain ⟨v1154, c1155⟩ : ∃ v, I1137 a0 10 = v := ⟨_, rfl⟩
          have b1156 := iv15_10 hS1144.1 ta0 c1155
          obtain ⟨v1157, c1158⟩ : ∃ v, I1137 a0 11 = v := ⟨_, rfl⟩
          obtain ⟨y1159, c1160⟩ : ∃ v, L1139 a0 15 = v := ⟨_, rfl⟩
          obtain ⟨v1161, c1162⟩ : ∃ v, I1137 a0 12 = v := ⟨_, rfl⟩
          obtain ⟨v1163, c1164⟩ : ∃ v, I1137 a0 8 = v := ⟨_, rfl⟩
          have b1165 := iv15_8 hS1144.1 ta0 c1164
          exact ⟨rfl, rfl, rfl, rfl, rfl, hS1144, (fun dr hd => (Option.some.inj (d2.symm.trans hd)) ▸ hO1146), (Or.inr (⟨(by first | done | with_reducible assumption | omega), (by (try rw [c1148]); first | done | with_reducible assumption | omega), (by (try rw [c1151]); first | done | with_reducible assumption | omega), (by (try rw [c1153]); first | done | with_reducible assumption | omega), trivial⟩)), trivial⟩
        · skip
          exfalso; omega
    · skip
      obtain ⟨v1166, c1167⟩ : ∃ v, I131 a0 9 = v := ⟨_, rfl⟩
      have b1168 := iv15_9 hS139.1 ta0 c1167
      rw [c1167] at p162
      obtain ⟨v1169, c1170⟩ : ∃ v, I131 a0 13 = v := ⟨_, rfl⟩
      rw [c1170] at p163
      obtain ⟨v1171, c1172⟩ : ∃ v, I131 a0 14 = v := ⟨_, rfl⟩
      rw [c1172] at p164
      replace hF := hF.neg (by omega)
      replace hP := hP.neg (by omega)
      replace hF := hF.pos (by omega)
      replace hP := hP.pos (by omega)
      refine tr_lstore_n dX12_readTurner_16 (by decide) (by decide) (by decide) ?_
      refine tr_aload_n dX12_readTurner_17 rfl ?_
      refine tr_ldcwS dX12_readTurner_18 ld12_318 ?_
      refine q_callVi hE (M' := mX12_eatsWord) (as := [_]) dX12_readTurner_21 lk12_290 inX12_eatsWord seX12_eatsWord myX12_eatsWord (by decide) ⟨by decide, by decide⟩ rfl (kR15 hS139.1 ta0) (Nat.le_of_ble_eq_true rfl) rfl rfl (by decide) (by decide) (k_X12_eatsWord hS139.1 ta0 (by decide)) ?_
      rintro v1177 cn' K' N' I1173 R1174 L1175 ⟨rfl, rfl, rfl, rfl, g1176, h1178, w1179, -⟩
      have hS1180 := hS139.tr g1176 (by decide +kernel) (by decide +kernel)
      have c1181 : I1173 a1 4 = v45 := (g1176.cell ta1 (by decide +kernel)).trans c140
      have c1182 : I1173 a0 13 = v1169 := (g1176.cell ta0 (by decide +kernel)).trans c1170
      have c1183 : I1173 a0 14 = v1171 := (g1176.cell ta0 (by decide +kernel)).trans c1172
      have hO1184 : FrO 14 a1 T I0 I1173 := hO141.st g1176 (by decide +kernel)
      have ov1185 := w1179.over (by rw [c1167]; omega)
      obtain ⟨v1186, c1187⟩ : ∃ v, I1173 a0 9 = v := ⟨_, rfl⟩
      have b1188 := iv15_9 hS1180.1 ta0 c1187
      obtain ⟨v1189, c1190⟩ : ∃ v, I1173 a0 13 = v := ⟨_, rfl⟩
      obtain ⟨v1191, c1192⟩ : ∃ v, I1173 a0 14 = v := ⟨_, rfl⟩
      (try rw [c1187] at ov1185)
      (try rw [c1190] at ov1185)
      (try rw [c1192] at ov1185)
      (try rw [c1167] at ov1185)
      (try rw [c1170] at ov1185)
      (try rw [c1172] at ov1185)
      refine q_if_eq 31 dX12_readTurner_24 (by decide) (fun h1193 => ?_) (fun h1193 => ?_)
      · skip
        refine tr_aload_n dX12_readTurner_31 rfl ?_
        refine tr_ldcwS dX12_readTurner_32 ld12_320 ?_
        refine q_callVi hE (M' := mX12_eatsWord) (as := [_]) dX12_readTurner_35 lk12_290 inX12_eatsWord seX12_eatsWord myX12_eatsWord (by decide) ⟨by decide, by decide⟩ rfl (kR15 hS1180.1 ta0) (Nat.le_of_ble_eq_true rfl) rfl rfl (by decide) (by decide) (k_X12_eatsWord hS1180.1 ta0 (by decide)) ?_
        rintro v1198 cn' K' N' I1194 R1195 L1196 ⟨rfl, rfl, rfl, rfl, g1197, h1199, w1200, -⟩
        have hS1201 := hS1180.tr g1197 (by decide +kernel) (by decide +kernel)
        have c1202 : I1194 a1 4 = v45 := (g1197.cell ta1 (by decide +kernel)).trans c1181
        have c1203 : I1194 a0 13 = v1189 := (g1197.cell ta0 (by decide +kernel)).trans c1190
        have c1204 : I1194 a0 14 = v1191 := (g1197.cell ta0 (by decide +kernel)).trans c1192
        have hO1205 : FrO 14 a1 T I0 I1194 := hO1184.st g1197 (by decide +kernel)
        have ov1206 := w1200.over (by rw [c1187]; omega)
        obtain ⟨v1207, c1208⟩ : ∃ v, I1194 a0 9 = v := ⟨_, rfl⟩
        have b1209 := iv15_9 hS1201.1 ta0 c1208
        obtain ⟨v1210, c1211⟩ : ∃ v, I1194 a0 13 = v := ⟨_, rfl⟩
        obtain ⟨v1212, c1213⟩ : ∃ v, I1194 a0 14 = v := ⟨_, rfl⟩
        (try rw [c1208] at ov1206)
        (try rw [c1211] at ov1206)
        (try rw [c1213] at ov1206)
        (try rw [c1187] at ov1206)
        (try rw [c1190] at ov1206)
        (try rw [c1192] at ov1206)
        refine q_if_eq 45 dX12_readTurner_38 (by decide) (fun h1214 => ?_) (fun h1214 => ?_)
        · skip
          refine tr_aload_n dX12_readTurner_45 rfl ?_
          refine tr_ldcwS dX12_readTurner_46 ld12_322 ?_
          refine q_callVi hE (M' := mX12_eatsWord) (as := [_]) dX12_readTurner_49 lk12_290 inX12_eatsWord seX12_eatsWord myX12_eatsWord (by decide) ⟨by decide, by decide⟩ rfl (kR15 hS1201.1 ta0) (Nat.le_of_ble_eq_true rfl) rfl rfl (by decide) (by decide) (k_X12_eatsWord hS1201.1 ta0 (by decide)) ?_
          rintro v1219 cn' K' N' I1215 R1216 L1217 ⟨rfl, rfl, rfl, rfl, g1218, h1220, w1221, -⟩
          have hS1222 := hS1201.tr g1218 (by decide +kernel) (by decide +kernel)
          have c1223 : I1215 a1 4 = v45 := (g1218.cell ta1 (by decide +kernel)).trans c1202
          have c1224 : I1215 a0 13 = v1210 := (g1218.cell ta0 (by decide +kernel)).trans c1211
          have c1225 : I1215 a0 14 = v1212 := (g1218.cell ta0 (by decide +kernel)).trans c1213
          have hO1226 : FrO 14 a1 T I0 I1215 := hO1205.st g1218 (by decide +kernel)
          have ov1227 := w1221.over (by rw [c1208]; omega)
          obtain ⟨v1228, c1229⟩ : ∃ v, I1215 a0 9 = v := ⟨_, rfl⟩
          have b1230 := iv15_9 hS1222.1 ta0 c1229
          obtain ⟨v1231, c1232⟩ : ∃ v, I1215 a0 13 = v := ⟨_, rfl⟩
          obtain ⟨v1233, c1234⟩ : ∃ v, I1215 a0 14 = v := ⟨_, rfl⟩
          (try rw [c1229] at ov1227)
          (try rw [c1232] at ov1227)
          (try rw [c1234] at ov1227)
          (try rw [c1208] at ov1227)
          (try rw [c1211] at ov1227)
          (try rw [c1213] at ov1227)
          refine q_if_eq 59 dX12_readTurner_52 (by decide) (fun h1235 => ?_) (fun h1235 => ?_)
          · skip
            refine tr_aload_n dX12_readTurner_59 rfl ?_
            refine tr_ldcS dX12_readTurner_60 ld12_178 ?_
            refine q_callVi hE (M' := mX12_eatsWord) (as := [_]) dX12_readTurner_62 lk12_290 inX12_eatsWord seX12_eatsWord myX12_eatsWord (by decide) ⟨by decide, by decide⟩ rfl (kR15 hS1222.1 ta0) (Nat.le_of_ble_eq_true rfl) rfl rfl (by decide) (by decide) (k_X12_eatsWord hS1222.1 ta0 (by decide)) ?_
            rintro v1240 cn' K' N' I1236 R1237 L1238 ⟨rfl, rfl, rfl, rfl, g1239, h1241, w1242, -⟩
            have hS1243 := hS1222.tr g1239 (by decide +kernel) (by decide +kernel)
            have c1244 : I1236 a1 4 = v45 := (g1239.cell ta1 (by decide +kernel)).trans c1223
            have c1245 : I1236 a0 13 = v1231 := (g1239.cell ta0 (by decide +kernel)).trans c1232
            have c1246 : I1236 a0 14 = v1233 := (g1239.cell ta0 (by decide +kernel)).trans c1234
            have hO1247 : FrO 14 a1 T I0 I1236 := hO1226.st g1239 (by decide +kernel)
            have ov1248 := w1242.over (by rw [c1229]; omega)
            obtain ⟨v1249, c1250⟩ : ∃ v, I1236 a0 9 = v := ⟨_, rfl⟩
            have b1251 := iv15_9 hS1243.1 ta0 c1250
            obtain ⟨v1252, c1253⟩ : ∃ v, I1236 a0 13 = v := ⟨_, rfl⟩
            obtain ⟨v1254, c1255⟩ : ∃ v, I1236 a0 14 = v := ⟨_, rfl⟩
            (try rw [c1250] at ov1248)
            (try rw [c1253] at ov1248)
            (try rw [c1255] at ov1248)
            (try rw [c1229] at ov1248)
            (try rw [c1232] at ov1248)
            (try rw [c1234] at ov1248)
            refine q_if_eq 72 dX12_readTurner_65 (by decide) (fun h1256 => ?_) (fun h1256 => ?_)
            · skip
              refine q_iconst dX12_readTurner_72 (by decide) ?_
              intro v1257 h1258
              refine tr_istore_n dX12_readTurner_73 (by decide) (by decide) ?_
              refine tr_iload_n dX12_readTurner_74 rfl ?_
              refine q_iconst dX12_readTurner_75 (by decide) ?_
              intro v1259 h1260
              refine q_icmp_ne 84 dX12_readTurner_76 (by decide) (fun h1261 => ?_) (fun h1261 => ?_)
              · skip
                exfalso; omega
              · skip
                refine tr_aload_n dX12_readTurner_79 rfl ?_
                refine q_iconst dX12_readTurner_80 (by decide) ?_
                intro v1262 h1263
                obtain ⟨v1264, c1265⟩ : ∃ v, I1236 a0 8 = v := ⟨_, rfl⟩
                have b1266 := iv15_8 hS1243.1 ta0 c1265
                refine q_callVv hE (M' := mX12_flaw) (as := [_]) dX12_readTurner_81 lk12_145 inX12_flaw seX12_flaw myX12_flaw (by decide) ⟨by decide, by decide⟩ rfl (kR15 hS1243.1 ta0) (Nat.le_of_ble_eq_true rfl) rfl rfl (by decide) (by decide) (k_X12_flaw hS1243.1 ta0 (by omega)) ?_
                rintro cn' K' N' I1267 R1268 L1269 ⟨rfl, rfl, rfl, rfl, rfl, g1270, p1272, p1273, w1274, -⟩
                have hS1275 := hS1243.tr g1270 (by decide +kernel) (by decide +kernel)
                have c1276 : I1267 a1 4 = v45 := (g1270.cell ta1 (by decide +kernel)).trans c1244
                have c1277 : I1267 a0 8 = v1264 := (g1270.cell ta0 (by decide +kernel)).trans c1265
                obtain ⟨v1278, c1279⟩ : ∃ v, I1267 a0 9 = v := ⟨_, rfl⟩
                have b1280 := iv15_9 hS1275.1 ta0 c1279
                rw [c1279] at p1272
                rw [c1277] at p1273
                rw [c1265] at p1273
                have hO1281 : FrO 14 a1 T I0 I1267 := hO1247.st g1270 (by decide +kernel)
                have ov1282 := w1274.over (by rw [c1250]; omega)
                obtain ⟨v1283, c1284⟩ : ∃ v, I1267 a0 9 = v := ⟨_, rfl⟩
                have b1285 := iv15_9 hS1275.1 ta0 c1284
                obtain ⟨v1286, c1287⟩ : ∃ v, I1267 a0 13 = v := ⟨_, rfl⟩
                obtain ⟨v1288, c1289⟩ : ∃ v, I1267 a0 14 = v := ⟨_, rfl⟩
                (try rw [c1284] at ov1282)
                (try rw [c1287] at ov1282)
                (try rw [c1289] at ov1282)
                (try rw [c1250] at ov1282)
                (try rw [c1253] at ov1282)
                (try rw [c1255] at ov1282)
                refine sf_tuO hE hZ hS1275.1 (gB) ta0 (by (try rw [c1284]); first | done | with_reducible assumption | omega) ⟨_, d2⟩ rfl rfl rfl ?_
                rintro I1290 R1291 L1292 ⟨g1293, p1294, p1295, p1296, -⟩
                obtain rfl : R0 = R1291 := funext fun a => funext fun j => (g1293.2.2 a j (wm_no rfl)).symm
                have hS1297 := hS1275.tr g1293 (by decide +kernel) (by decide +kernel)
                have c1298 : I1290 a1 4 = v45 := (g1293.cell ta1 (by decide +kernel)).trans c1276
                have hO1299 : FrO 14 a1 T I0 I1290 := hO1281.st g1293 (by decide +kernel)
                obtain ⟨v1300, c1301⟩ : ∃ v, I1290 a0 9 = v := ⟨_, rfl⟩
                have b1302 := iv15_9 hS1297.1 ta0 c1301
                rw [c1301] at p1294
                obtain ⟨v1303, c1304⟩ : ∃ v, I1290 a0 13 = v := ⟨_, rfl⟩
                rw [c1304] at p1295
                rw [c1287] at p1295
                obtain ⟨v1305, c1306⟩ : ∃ v, I1290 a0 14 = v := ⟨_, rfl⟩
                rw [c1306] at p1296
                rw [c1289] at p1296
                have eF := hF.eq
                have eP := hP.eq
                obtain ⟨v1307, c1308⟩ : ∃ v, I1290 a0 10 = v := ⟨_, rfl⟩
                have b1309 := iv15_10 hS1297.1 ta0 c1308
                obtain ⟨v1310, c1311⟩ : ∃ v, I1290 a0 11 = v := ⟨_, rfl⟩
                obtain ⟨y1312, c1313⟩ : ∃ v, L1292 a0 15 = v := ⟨_, rfl⟩
                obtain ⟨v1314, c1315⟩ : ∃ v, I1290 a0 12 = v := ⟨_, rfl⟩
                obtain ⟨v1316, c1317⟩ : ∃ v, I1290 a0 8 = v := ⟨_, rfl⟩
                have b1318 := iv15_8 hS1297.1 ta0 c1317
                exact ⟨rfl, rfl, rfl, rfl, rfl, hS1297, (fun dr hd => (Option.some.inj (d2.symm.trans hd)) ▸ hO1299), (Or.inr (⟨(by first | done | with_reducible assumption | omega), (by (try rw [c1301]); first | done | with_reducible assumption | omega), (by (try rw [c1304]); first | done | with_reducible assumption | omega), (by (try rw [c1306]); first | done | with_reducible assumption | omega), trivial⟩)), trivial⟩
            · skip
              refine q_iconst dX12_readTurner_68 (by decide) ?_
              intro v1319 h1320
              refine tr_goto 73 dX12_readTurner_69 (by decide) ?_
              refine tr_istore_n dX12_readTurner_73 (by decide) (by decide) ?_
              refine tr_iload_n dX12_readTurner_74 rfl ?_
              refine q_iconst dX12_readTurner_75 (by decide) ?_
              intro v1321 h1322
              refine q_icmp_ne 84 dX12_readTurner_76 (by decide) (fun h1323 => ?_) (fun h1323 => ?_)
              · skip
                refine sf_tuO hE hZ hS1243.1 (gB) ta0 (by (try rw [c1250]); first | done | with_reducible assumption | omega) ⟨_, d2⟩ rfl rfl rfl ?_
                rintro I1324 R1325 L1326 ⟨g1327, p1328, p1329, p1330, -⟩
                obtain rfl : R0 = R1325 := funext fun a => funext fun j => (g1327.2.2 a j (wm_no rfl)).symm
                have hS1331 := hS1243.tr g1327 (by decide +kernel) (by decide +kernel)
                have c1332 : I1324 a1 4 = v45 := (g1327.cell ta1 (by decide +kernel)).trans c1244
                have hO1333 : FrO 14 a1 T I0 I1324 := hO1247.st g1327 (by decide +kernel)
                obtain ⟨v1334, c1335⟩ : ∃ v, I1324 a0 9 = v := ⟨_, rfl⟩
                have b1336 := iv15_9 hS1331.1 ta0 c1335
                rw [c1335] at p1328
                obtain ⟨v1337, c1338⟩ : ∃ v, I1324 a0 13 = v := ⟨_, rfl⟩
                rw [c1338] at p1329
                rw [c1253] at p1329
                obtain ⟨v1339, c1340⟩ : ∃ v, I1324 a0 14 = v := ⟨_, rfl⟩
                rw [c1340] at p1330
                rw [c1255] at p1330
                have eF := hF.eq
                have eP := hP.eq
                obtain ⟨v1341, c1342⟩ : ∃ v, I1324 a0 10 = v := ⟨_, rfl⟩
                have b1343 := iv15_10 hS1331.1 ta0 c1342
                obtain ⟨v1344, c1345⟩ : ∃ v, I1324 a0 11 = v := ⟨_, rfl⟩
                obtain ⟨y1346, c1347⟩ : ∃ v, L1326 a0 15 = v := ⟨_, rfl⟩
                obtain ⟨v1348, c1349⟩ : ∃ v, I1324 a0 12 = v := ⟨_, rfl⟩
                obtain ⟨v1350, c1351⟩ : ∃ v, I1324 a0 8 = v := ⟨_, rfl⟩
                have b1352 := iv15_8 hS1331.1 ta0 c1351
                exact ⟨rfl, rfl, rfl, rfl, rfl, hS1331, (fun dr hd => (Option.some.inj (d2.symm.trans hd)) ▸ hO1333), (Or.inr (⟨(by first | done | with_reducible assumption | omega), (by (try rw [c1335]); first | done | with_reducible assumption | omega), (by (try rw [c1338]); first | done | with_reducible assumption | omega), (by (try rw [c1340]); first | done | with_reducible assumption | omega), trivial⟩)), trivial⟩
              · skip
                exfalso; omega
          · skip
            refine q_iconst dX12_readTurner_55 (by decide) ?_
            intro v1353 h1354
            refine tr_goto 73 dX12_readTurner_56 (by decide) ?_
            refine tr_istore_n dX12_readTurner_73 (by decide) (by decide) ?_
            refine tr_iload_n dX12_readTurner_74 rfl ?_
            refine q_iconst dX12_readTurner_75 (by decide) ?_
            intro v1355 h1356
            refine q_icmp_ne 84 dX12_readTurner_76 (by decide) (fun h1357 => ?_) (fun h1357 => ?_)
            · skip
              refine sf_tuO hE hZ hS1222.1 (gB) ta0 (by (try rw [c1229]); first | done | with_reducible assumption | omega) ⟨_, d2⟩ rfl rfl rfl ?_
              rintro I1358 R1359 L1360 ⟨g1361, p1362, p1363, p1364, -⟩
              obtain rfl : R0 = R1359 := funext fun a => funext fun j => (g1361.2.2 a j (wm_no rfl)).symm
              have hS1365 := hS1222.tr g1361 (by decide +kernel) (by decide +kernel)
              have c1366 : I1358 a1 4 = v45 := (g1361.cell ta1 (by decide +kernel)).trans c1223
              have hO1367 : FrO 14 a1 T I0 I1358 := hO1226.st g1361 (by decide +kernel)
              obtain ⟨v1368, c1369⟩ : ∃ v, I1358 a0 9 = v := ⟨_, rfl⟩
              have b1370 := iv15_9 hS1365.1 ta0 c1369
              rw [c1369] at p1362
              obtain ⟨v1371, c1372⟩ : ∃ v, I1358 a0 13 = v := ⟨_, rfl⟩
              rw [c1372] at p1363
              rw [c1232] at p1363
              obtain ⟨v1373, c1374⟩ : ∃ v, I1358 a0 14 = v := ⟨_, rfl⟩
              rw [c1374] at p1364
              rw [c1234] at p1364
              have eF := hF.eq
              have eP := hP.eq
              obtain ⟨v1375, c1376⟩ : ∃ v, I1358 a0 10 = v := ⟨_, rfl⟩
              have b1377 := iv15_10 hS1365.1 ta0 c1376
              obtain ⟨v1378, c1379⟩ : ∃ v, I1358 a0 11 = v := ⟨_, rfl⟩
              obtain ⟨y1380, c1381⟩ : ∃ v, L1360 a0 15 = v := ⟨_, rfl⟩
              obtain ⟨v1382, c1383⟩ : ∃ v, I1358 a0 12 = v := ⟨_, rfl⟩
              obtain ⟨v1384, c1385⟩ : ∃ v, I1358 a0 8 = v := ⟨_, rfl⟩
              have b1386 := iv15_8 hS1365.1 ta0 c1385
              exact ⟨rfl, rfl, rfl, rfl, rfl, hS1365, (fun dr hd => (Option.some.inj (d2.symm.trans hd)) ▸ hO1367), (Or.inr (⟨(by first | done | with_reducible assumption | omega), (by (try rw [c1369]); first | done | with_reducible assumption | omega), (by (try rw [c1372]); first | done | with_reducible assumption | omega), (by (try rw [c1374]); first | done | with_reducible assumption | omega), trivial⟩)), trivial⟩
            · skip
              exfalso; omega
        · skip
          refine q_iconst dX12_readTurner_41 (by decide) ?_
          intro v1387 h1388
          refine tr_goto 73 dX12_readTurner_42 (by decide) ?_
          refine tr_istore_n dX12_readTurner_73 (by decide) (by decide) ?_
          refine tr_iload_n dX12_readTurner_74 rfl ?_
          refine q_iconst dX12_readTurner_75 (by decide) ?_
          intro v1389 h1390
          refine q_icmp_ne 84 dX12_readTurner_76 (by decide) (fun h1391 => ?_) (fun h1391 => ?_)
          · skip
            refine sf_tuO hE hZ hS1201.1 (gB) ta0 (by (try rw [c1208]); first | done | with_reducible assumption | omega) ⟨_, d2⟩ rfl rfl rfl ?_
            rintro I1392 R1393 L1394 ⟨g1395, p1396, p1397, p1398, -⟩
            obtain rfl : R0 = R1393 := funext fun a => funext fun j => (g1395.2.2 a j (wm_no rfl)).symm
            have hS1399 := hS1201.tr g1395 (by decide +kernel) (by decide +kernel)
            have c1400 : I1392 a1 4 = v45 := (g1395.cell ta1 (by decide +kernel)).trans c1202
            have hO1401 : FrO 14 a1 T I0 I1392 := hO1205.st g1395 (by decide +kernel)
            obtain ⟨v1402, c1403⟩ : ∃ v, I1392 a0 9 = v := ⟨_, rfl⟩
            have b1404 := iv15_9 hS1399.1 ta0 c1403
            rw [c1403] at p1396
            obtain ⟨v1405, c1406⟩ : ∃ v, I1392 a0 13 = v := ⟨_, rfl⟩
            rw [c1406] at p1397
            rw [c1211] at p1397
            obtain ⟨v1407, c1408⟩ : ∃ v, I1392 a0 14 = v := ⟨_, rfl⟩
            rw [c1408] at p1398
            rw [c1213] at p1398
            have eF := hF.eq
            have eP := hP.eq
            obtain ⟨v1409, c1410⟩ : ∃ v, I1392 a0 10 = v := ⟨_, rfl⟩
            have b1411 := iv15_10 hS1399.1 ta0 c1410
            obtain ⟨v1412, c1413⟩ : ∃ v, I1392 a0 11 = v := ⟨_, rfl⟩
            obtain ⟨y1414, c1415⟩ : ∃ v, L1394 a0 15 = v := ⟨_, rfl⟩
            obtain ⟨v1416, c1417⟩ : ∃ v, I1392 a0 12 = v := ⟨_, rfl⟩
            obtain ⟨v1418, c1419⟩ : ∃ v, I1392 a0 8 = v := ⟨_, rfl⟩
            have b1420 := iv15_8 hS1399.1 ta0 c1419
            exact ⟨rfl, rfl, rfl, rfl, rfl, hS1399, (fun dr hd => (Option.some.inj (d2.symm.trans hd)) ▸ hO1401), (Or.inr (⟨(by first | done | with_reducible assumption | omega), (by (try rw [c1403]); first | done | with_reducible assumption | omega), (by (try rw [c1406]); first | done | with_reducible assumption | omega), (by (try rw [c1408]); first | done | with_reducible assumption | omega), trivial⟩)), trivial⟩
          · skip
            exfalso; omega
      · skip
        refine q_iconst dX12_readTurner_27 (by decide) ?_
        intro v1421 h1422
        refine tr_goto 73 dX12_readTurner_28 (by decide) ?_
        refine tr_istore_n dX12_readTurner_73 (by decide) (by decide) ?_
        refine tr_iload_n dX12_readTurner_74 rfl ?_
        refine q_iconst dX12_readTurner_75 (by decide) ?_
        intro v1423 h1424
        refine q_icmp_ne 84 dX12_readTurner_76 (by decide) (fun h1425 => ?_) (fun h1425 => ?_)
        · skip
          refine sf_tuO hE hZ hS1180.1 (gB) ta0 (by (try rw [c1187]); first | done | with_reducible assumption | omega) ⟨_, d2⟩ rfl rfl rfl ?_
          rintro I1426 R1427 L1428 ⟨g1429, p1430, p1431, p1432, -⟩
          obtain rfl : R0 = R1427 := funext fun a => funext fun j => (g1429.2.2 a j (wm_no rfl)).symm
          have hS1433 := hS1180.tr g1429 (by decide +kernel) (by decide +kernel)
          have c1434 : I1426 a1 4 = v45 := (g1429.cell ta1 (by decide +kernel)).trans c1181
          have hO1435 : FrO 14 a1 T I0 I1426 := hO1184.st g1429 (by decide +kernel)
          obtain ⟨v1436, c1437⟩ : ∃ v, I1426 a0 9 = v := ⟨_, rfl⟩
          have b1438 := iv15_9 hS1433.1 ta0 c1437
          rw [c1437] at p1430
          obtain ⟨v1439, c1440⟩ : ∃ v, I1426 a0 13 = v := ⟨_, rfl⟩
          rw [c1440] at p1431
          rw [c1190] at p1431
          obtain ⟨v1441, c1442⟩ : ∃ v, I1426 a0 14 = v := ⟨_, rfl⟩
          rw [c1442] at p1432
          rw [c1192] at p1432
          have eF := hF.eq
          have eP := hP.eq
          obtain ⟨v1443, c1444⟩ : ∃ v, I1426 a0 10 = v := ⟨_, rfl⟩
          have b1445 := iv15_10 hS1433.1 ta0 c1444
          obtain ⟨v1446, c1447⟩ : ∃ v, I1426 a0 11 = v := ⟨_, rfl⟩
          obtain ⟨y1448, c1449⟩ : ∃ v, L1428 a0 15 = v := ⟨_, rfl⟩
          obtain ⟨v1450, c1451⟩ : ∃ v, I1426 a0 12 = v := ⟨_, rfl⟩
          obtain ⟨v1452, c1453⟩ : ∃ v, I1426 a0 8 = v := ⟨_, rfl⟩
          have b1454 := iv15_8 hS1433.1 ta0 c1453
          exact ⟨rfl, rfl, rfl, rfl, rfl, hS1433, (fun dr hd => (Option.some.inj (d2.symm.trans hd)) ▸ hO1435), (Or.inr (⟨(by first | done | with_reducible assumption | omega), (by (try rw [c1437]); first | done | with_reducible assumption | omega), (by (try rw [c1440]); first | done | with_reducible assumption | omega), (by (try rw [c1442]); first | done | with_reducible assumption | omega), trivial⟩)), trivial⟩
        · skip
          exfalso; omega
  · skip
    obtain ⟨v1455, c1456⟩ : ∃ v, I68 a0 9 = v := ⟨_, rfl⟩
    have b1457 := iv15_9 hS76.1 ta0 c1456
    rw [c1456] at p91
    obtain ⟨v1458, c1459⟩ : ∃ v, I68 a0 13 = v := ⟨_, rfl⟩
    rw [c1459] at p92
    obtain ⟨v1460, c1461⟩ : ∃ v, I68 a0 14 = v := ⟨_, rfl⟩
    rw [c1461] at p93
    have p1462 := p61
    unfold Q7M at p1462
    replace hF := hF.pos (by omega)
    replace hP := hP.pos (by omega)
    clear p1462
    refine tr_aload_n dX12_readTurner_12 rfl ?_
    refine q_callVl hE (M' := mX12_readFresh) (as := []) dX12_readTurner_13 lk12_285 inX12_readFresh seX12_readFresh myX12_readFresh (by decide) ⟨by decide, by decide⟩ rfl (kR15 hS76.1 ta0) (Nat.le_of_ble_eq_true rfl) rfl rfl (by decide) (by decide) (k_X12_readFresh hS76.1 ta0 ⟨_, d2⟩) ?_
    rintro y1467 cn' K' N' I1463 R1464 L1465 ⟨rfl, rfl, rfl, rfl, g1466, w1468, -⟩
    have hS1469 := hS76.tr g1466 (by decide +kernel) (by decide +kernel)
    have c1470 : I1463 a1 4 = v45 := (g1466.cell ta1 (by decide +kernel)).trans c77
    have hO1471 : FrO 14 a1 T I0 I1463 := hO78.st g1466 (by decide +kernel)
    have ov1472 := w1468.over (by rw [c1456]; omega)
    obtain ⟨v1473, c1474⟩ : ∃ v, I1463 a0 9 = v := ⟨_, rfl⟩
    have b1475 := iv15_9 hS1469.1 ta0 c1474
    obtain ⟨v1476, c1477⟩ : ∃ v, I1463 a0 13 = v := ⟨_, rfl⟩
    obtain ⟨v1478, c1479⟩ : ∃ v, I1463 a0 14 = v := ⟨_, rfl⟩
    (try rw [c1474] at ov1472)
    (try rw [c1477] at ov1472)
    (try rw [c1479] at ov1472)
    (try rw [c1456] at ov1472)
    (try rw [c1459] at ov1472)
    (try rw [c1461] at ov1472)
    refine tr_lstore_n dX12_readTurner_16 (by decide) (by decide) (by decide) ?_
    refine tr_aload_n dX12_readTurner_17 rfl ?_
    refine tr_ldcwS dX12_readTurner_18 ld12_318 ?_
    refine q_callVi hE (M' := mX12_eatsWord) (as := [_]) dX12_readTurner_21 lk12_290 inX12_eatsWord seX12_eatsWord myX12_eatsWord (by decide) ⟨by decide, by decide⟩ rfl (kR15 hS1469.1 ta0) (Nat.le_of_ble_eq_true rfl) rfl rfl (by decide) (by decide) (k_X12_eatsWord hS1469.1 ta0 (by decide)) ?_
    rintro v1484 cn' K' N' I1480 R1481 L1482 ⟨rfl, rfl, rfl, rfl, g1483, h1485, w1486, -⟩
    have hS1487 := hS1469.tr g1483 (by decide +kernel) (by decide +kernel)
    have c1488 : I1480 a1 4 = v45 := (g1483.cell ta1 (by decide +kernel)).trans c1470
    have c1489 : I1480 a0 13 = v1476 := (g1483.cell ta0 (by decide +kernel)).trans c1477
    have c1490 : I1480 a0 14 = v1478 := (g1483.cell ta0 (by decide +kernel)).trans c1479
    have hO1491 : FrO 14 a1 T I0 I1480 := hO1471.st g1483 (by decide +kernel)
    have ov1492 := w1486.over (by rw [c1474]; omega)
    obtain ⟨v1493, c1494⟩ : ∃ v, I1480 a0 9 = v := ⟨_, rfl⟩
    have b1495 := iv15_9 hS1487.1 ta0 c1494
    obtain ⟨v1496, c1497⟩ : ∃ v, I1480 a0 13 = v := ⟨_, rfl⟩
    obtain ⟨v1498, c1499⟩ : ∃ v, I1480 a0 14 = v := ⟨_, rfl⟩
    (try rw [c1494] at ov1492)
    (try rw [c1497] at ov1492)
    (try rw [c1499] at ov1492)
    (try rw [c1474] at ov1492)
    (try rw [c1477] at ov1492)
    (try rw [c1479] at ov1492)
    refine q_if_eq 31 dX12_readTurner_24 (by decide) (fun h1500 => ?_) (fun h1500 => ?_)
    · skip
      refine tr_aload_n dX12_readTurner_31 rfl ?_
      refine tr_ldcwS dX12_readTurner_32 ld12_320 ?_
      refine q_callVi hE (M' := mX12_eatsWord) (as := [_]) dX12_readTurner_35 lk12_290 inX12_eatsWord seX12_eatsWord myX12_eatsWord (by decide) ⟨by decide, by decide⟩ rfl (kR15 hS1487.1 ta0) (Nat.le_of_ble_eq_true rfl) rfl rfl (by decide) (by decide) (k_X12_eatsWord hS1487.1 ta0 (by decide)) ?_
      rintro v1505 cn' K' N' I1501 R1502 L1503 ⟨rfl, rfl, rfl, rfl, g1504, h1506, w1507, -⟩
      have hS1508 := hS1487.tr g1504 (by decide +kernel) (by decide +kernel)
      have c1509 : I1501 a1 4 = v45 := (g1504.cell ta1 (by decide +kernel)).trans c1488
      have c1510 : I1501 a0 13 = v1496 := (g1504.cell ta0 (by decide +kernel)).trans c1497
      have c1511 : I1501 a0 14 = v1498 := (g1504.cell ta0 (by decide +kernel)).trans c1499
      have hO1512 : FrO 14 a1 T I0 I1501 := hO1491.st g1504 (by decide +kernel)
      have ov1513 := w1507.over (by rw [c1494]; omega)
      obtain ⟨v1514, c1515⟩ : ∃ v, I1501 a0 9 = v := ⟨_, rfl⟩
      have b1516 := iv15_9 hS1508.1 ta0 c1515
      obtain ⟨v1517, c1518⟩ : ∃ v, I1501 a0 13 = v := ⟨_, rfl⟩
      obtain ⟨v1519, c1520⟩ : ∃ v, I1501 a0 14 = v := ⟨_, rfl⟩
      (try rw [c1515] at ov1513)
      (try rw [c1518] at ov1513)
      (try rw [c1520] at ov1513)
      (try rw [c1494] at ov1513)
      (try rw [c1497] at ov1513)
      (try rw [c1499] at ov1513)
      refine q_if_eq 45 dX12_readTurner_38 (by decide) (fun h1521 => ?_) (fun h1521 => ?_)
      · skip
        refine tr_aload_n dX12_readTurner_45 rfl ?_
        refine tr_ldcwS dX12_readTurner_46 ld12_322 ?_
        refine q_callVi hE (M' := mX12_eatsWord) (as := [_]) dX12_readTurner_49 lk12_290 inX12_eatsWord seX12_eatsWord myX12_eatsWord (by decide) ⟨by decide, by decide⟩ rfl (kR15 hS1508.1 ta0) (Nat.le_of_ble_eq_true rfl) rfl rfl (by decide) (by decide) (k_X12_eatsWord hS1508.1 ta0 (by decide)) ?_
        rintro v1526 cn' K' N' I1522 R1523 L1524 ⟨rfl, rfl, rfl, rfl, g1525, h1527, w1528, -⟩
        have hS1529 := hS1508.tr g1525 (by decide +kernel) (by decide +kernel)
        have c1530 : I1522 a1 4 = v45 := (g1525.cell ta1 (by decide +kernel)).trans c1509
        have c1531 : I1522 a0 13 = v1517 := (g1525.cell ta0 (by decide +kernel)).trans c1518
        have c1532 : I1522 a0 14 = v1519 := (g1525.cell ta0 (by decide +kernel)).trans c1520
        have hO1533 : FrO 14 a1 T I0 I1522 := hO1512.st g1525 (by decide +kernel)
        have ov1534 := w1528.over (by rw [c1515]; omega)
        obtain ⟨v1535, c1536⟩ : ∃ v, I1522 a0 9 = v := ⟨_, rfl⟩
        have b1537 := iv15_9 hS1529.1 ta0 c1536
        obtain ⟨v1538, c1539⟩ : ∃ v, I1522 a0 13 = v := ⟨_, rfl⟩
        obtain ⟨v1540, c1541⟩ : ∃ v, I1522 a0 14 = v := ⟨_, rfl⟩
        (try rw [c1536] at ov1534)
        (try rw [c1539] at ov1534)
        (try rw [c1541] at ov1534)
        (try rw [c1515] at ov1534)
        (try rw [c1518] at ov1534)
        (try rw [c1520] at ov1534)
        refine q_if_eq 59 dX12_readTurner_52 (by decide) (fun h1542 => ?_) (fun h1542 => ?_)
        · skip
          refine tr_aload_n dX12_readTurner_59 rfl ?_
          refine tr_ldcS dX12_readTurner_60 ld12_178 ?_
          refine q_callVi hE (M' := mX12_eatsWord) (as := [_]) dX12_readTurner_62 lk12_290 inX12_eatsWord seX12_eatsWord myX12_eatsWord (by decide) ⟨by decide, by decide⟩ rfl (kR15 hS1529.1 ta0) (Nat.le_of_ble_eq_true rfl) rfl rfl (by decide) (by decide) (k_X12_eatsWord hS1529.1 ta0 (by decide)) ?_
          rintro v1547 cn' K' N' I1543 R1544 L1545 ⟨rfl, rfl, rfl, rfl, g1546, h1548, w1549, -⟩
          have hS1550 := hS1529.tr g1546 (by decide +kernel) (by decide +kernel)
          have c1551 : I1543 a1 4 = v45 := (g1546.cell ta1 (by decide +kernel)).trans c1530
          have c1552 : I1543 a0 13 = v1538 := (g1546.cell ta0 (by decide +kernel)).trans c1539
          have c1553 : I1543 a0 14 = v1540 := (g1546.cell ta0 (by decide +kernel)).trans c1541
          have hO1554 : FrO 14 a1 T I0 I1543 := hO1533.st g1546 (by decide +kernel)
          have ov1555 := w1549.over (by rw [c1536]; omega)
          obtain ⟨v1556, c1557⟩ : ∃ v, I1543 a0 9 = v := ⟨_, rfl⟩
          have b1558 := iv15_9 hS1550.1 ta0 c1557
          obtain ⟨v1559, c1560⟩ : ∃ v, I1543 a0 13 = v := ⟨_, rfl⟩
          obtain ⟨v1561, c1562⟩ : ∃ v, I1543 a0 14 = v := ⟨_, rfl⟩
          (try rw [c1557] at ov1555)
          (try rw [c1560] at ov1555)
          (try rw [c1562] at ov1555)
          (try rw [c1536] at ov1555)
          (try rw [c1539] at ov1555)
          (try rw [c1541] at ov1555)
          refine q_if_eq 72 dX12_readTurner_65 (by decide) (fun h1563 => ?_) (fun h1563 => ?_)
          · skip
            refine q_iconst dX12_readTurner_72 (by decide) ?_
            intro v1564 h1565
            refine tr_istore_n dX12_readTurner_73 (by decide) (by decide) ?_
            refine tr_iload_n dX12_readTurner_74 rfl ?_
            refine q_iconst dX12_readTurner_75 (by decide) ?_
            intro v1566 h1567
            refine q_icmp_ne 84 dX12_readTurner_76 (by decide) (fun h1568 => ?_) (fun h1568 => ?_)
            · skip
              exfalso; omega
            · skip
              refine tr_aload_n dX12_readTurner_79 rfl ?_
              refine q_iconst dX12_readTurner_80 (by decide) ?_
              intro v1569 h1570
              obtain ⟨v1571, c1572⟩ : ∃ v, I1543 a0 8 = v := ⟨_, rfl⟩
              have b1573 := iv15_8 hS1550.1 ta0 c1572
              refine q_callVv hE (M' := mX12_flaw) (as := [_]) dX12_readTurner_81 lk12_145 inX12_flaw seX12_flaw myX12_flaw (by decide) ⟨by decide, by decide⟩ rfl (kR15 hS1550.1 ta0) (Nat.le_of_ble_eq_true rfl) rfl rfl (by decide) (by decide) (k_X12_flaw hS1550.1 ta0 (by omega)) ?_
              rintro cn' K' N' I1574 R1575 L1576 ⟨rfl, rfl, rfl, rfl, rfl, g1577, p1579, p1580, w1581, -⟩
              have hS1582 := hS1550.tr g1577 (by decide +kernel) (by decide +kernel)
              have c1583 : I1574 a1 4 = v45 := (g1577.cell ta1 (by decide +kernel)).trans c1551
              have c1584 : I1574 a0 8 = v1571 := (g1577.cell ta0 (by decide +kernel)).trans c1572
              obtain ⟨v1585, c1586⟩ : ∃ v, I1574 a0 9 = v := ⟨_, rfl⟩
              have b1587 := iv15_9 hS1582.1 ta0 c1586
              rw [c1586] at p1579
              rw [c1584] at p1580
              rw [c1572] at p1580
              have hO1588 : FrO 14 a1 T I0 I1574 := hO1554.st g1577 (by decide +kernel)
              have ov1589 := w1581.over (by rw [c1557]; omega)
              obtain ⟨v1590, c1591⟩ : ∃ v, I1574 a0 9 = v := ⟨_, rfl⟩
              have b1592 := iv15_9 hS1582.1 ta0 c1591
              obtain ⟨v1593, c1594⟩ : ∃ v, I1574 a0 13 = v := ⟨_, rfl⟩
              obtain ⟨v1595, c1596⟩ : ∃ v, I1574 a0 14 = v := ⟨_, rfl⟩
              (try rw [c1591] at ov1589)
              (try rw [c1594] at ov1589)
              (try rw [c1596] at ov1589)
              (try rw [c1557] at ov1589)
              (try rw [c1560] at ov1589)
              (try rw [c1562] at ov1589)
              refine sf_tuO hE hZ hS1582.1 (gB) ta0 (by (try rw [c1591]); first | done | with_reducible assumption | omega) ⟨_, d2⟩ rfl rfl rfl ?_
              rintro I1597 R1598 L1599 ⟨g1600, p1601, p1602, p1603, -⟩
              obtain rfl : R0 = R1598 := funext fun a => funext fun j => (g1600.2.2 a j (wm_no rfl)).symm
              have hS1604 := hS1582.tr g1600 (by decide +kernel) (by decide +kernel)
              have c1605 : I1597 a1 4 = v45 := (g1600.cell ta1 (by decide +kernel)).trans c1583
              have hO1606 : FrO 14 a1 T I0 I1597 := hO1588.st g1600 (by decide +kernel)
              obtain ⟨v1607, c1608⟩ : ∃ v, I1597 a0 9 = v := ⟨_, rfl⟩
              have b1609 := iv15_9 hS1604.1 ta0 c1608
              rw [c1608] at p1601
              obtain ⟨v1610, c1611⟩ : ∃ v, I1597 a0 13 = v := ⟨_, rfl⟩
              rw [c1611] at p1602
              rw [c1594] at p1602
              obtain ⟨v1612, c1613⟩ : ∃ v, I1597 a0 14 = v := ⟨_, rfl⟩
              rw [c1613] at p1603
              rw [c1596] at p1603
              have eF := hF.eq
              have eP := hP.eq
              obtain ⟨v1614, c1615⟩ : ∃ v, I1597 a0 10 = v := ⟨_, rfl⟩
              have b1616 := iv15_10 hS1604.1 ta0 c1615
              obtain ⟨v1617, c1618⟩ : ∃ v, I1597 a0 11 = v := ⟨_, rfl⟩
              obtain ⟨y1619, c1620⟩ : ∃ v, L1599 a0 15 = v := ⟨_, rfl⟩
              obtain ⟨v1621, c1622⟩ : ∃ v, I1597 a0 12 = v := ⟨_, rfl⟩
              obtain ⟨v1623, c1624⟩ : ∃ v, I1597 a0 8 = v := ⟨_, rfl⟩
              have b1625 := iv15_8 hS1604.1 ta0 c1624
              exact ⟨rfl, rfl, rfl, rfl, rfl, hS1604, (fun dr hd => (Option.some.inj (d2.symm.trans hd)) ▸ hO1606), (Or.inr (⟨(by first | done | with_reducible assumption | omega), (by (try rw [c1608]); first | done | with_reducible assumption | omega), (by (try rw [c1611]); first | done | with_reducible assumption | omega), (by (try rw [c1613]); first | done | with_reducible assumption | omega), trivial⟩)), trivial⟩
          · skip
            refine q_iconst dX12_readTurner_68 (by decide) ?_
            intro v1626 h1627
            refine tr_goto 73 dX12_readTurner_69 (by decide) ?_
            refine tr_istore_n dX12_readTurner_73 (by decide) (by decide) ?_
            refine tr_iload_n dX12_readTurner_74 rfl ?_
            refine q_iconst dX12_readTurner_75 (by decide) ?_
            intro v1628 h1629
            refine q_icmp_ne 84 dX12_readTurner_76 (by decide) (fun h1630 => ?_) (fun h1630 => ?_)
            · skip
              refine sf_tuO hE hZ hS1550.1 (gB) ta0 (by (try rw [c1557]); first | done | with_reducible assumption | omega) ⟨_, d2⟩ rfl rfl rfl ?_
              rintro I1631 R1632 L1633 ⟨g1634, p1635, p1636, p1637, -⟩
              obtain rfl : R0 = R1632 := funext fun a => funext fun j => (g1634.2.2 a j (wm_no rfl)).symm
              have hS1638 := hS1550.tr g1634 (by decide +kernel) (by decide +kernel)
              have c1639 : I1631 a1 4 = v45 := (g1634.cell ta1 (by decide +kernel)).trans c1551
              have hO1640 : FrO 14 a1 T I0 I1631 := hO1554.st g1634 (by decide +kernel)
              obtain ⟨v1641, c1642⟩ : ∃ v, I1631 a0 9 = v := ⟨_, rfl⟩
              have b1643 := iv15_9 hS1638.1 ta0 c1642
              rw [c1642] at p1635
              obtain ⟨v1644, c1645⟩ : ∃ v, I1631 a0 13 = v := ⟨_, rfl⟩
              rw [c1645] at p1636
              rw [c1560] at p1636
              obtain ⟨v1646, c1647⟩ : ∃ v, I1631 a0 14 = v := ⟨_, rfl⟩
              rw [c1647] at p1637
              rw [c1562] at p1637
              have eF := hF.eq
              have eP := hP.eq
              obtain ⟨v1648, c1649⟩ : ∃ v, I1631 a0 10 = v := ⟨_, rfl⟩
              have b1650 := iv15_10 hS1638.1 ta0 c1649
              obtain ⟨v1651, c1652⟩ : ∃ v, I1631 a0 11 = v := ⟨_, rfl⟩
              obtain ⟨y1653, c1654⟩ : ∃ v, L1633 a0 15 = v := ⟨_, rfl⟩
              obtain ⟨v1655, c1656⟩ : ∃ v, I1631 a0 12 = v := ⟨_, rfl⟩
              obtain ⟨v1657, c1658⟩ : ∃ v, I1631 a0 8 = v := ⟨_, rfl⟩
              have b1659 := iv15_8 hS1638.1 ta0 c1658
              exact ⟨rfl, rfl, rfl, rfl, rfl, hS1638, (fun dr hd => (Option.some.inj (d2.symm.trans hd)) ▸ hO1640), (Or.inr (⟨(by first | done | with_reducible assumption | omega), (by (try rw [c1642]); first | done | with_reducible assumption | omega), (by (try rw [c1645]); first | done | with_reducible assumption | omega), (by (try rw [c1647]); first | done | with_reducible assumption | omega), trivial⟩)), trivial⟩
            · skip
              exfalso; omega
        · skip
          refine q_iconst dX12_readTurner_55 (by decide) ?_
          intro v1660 h1661
          refine tr_goto 73 dX12_readTurner_56 (by decide) ?_
          refine tr_istore_n dX12_readTurner_73 (by decide) (by decide) ?_
          refine tr_iload_n dX12_readTurner_74 rfl ?_
          refine q_iconst dX12_readTurner_75 (by decide) ?_
          intro v1662 h1663
          refine q_icmp_ne 84 dX12_readTurner_76 (by decide) (fun h1664 => ?_) (fun h1664 => ?_)
          · skip
            refine sf_tuO hE hZ hS1529.1 (gB) ta0 (by (try rw [c1536]); first | done | with_reducible assumption | omega) ⟨_, d2⟩ rfl rfl rfl ?_
            rintro I1665 R1666 L1667 ⟨g1668, p1669, p1670, p1671, -⟩
            obtain rfl : R0 = R1666 := funext fun a => funext fun j => (g1668.2.2 a j (wm_no rfl)).symm
            have hS1672 := hS1529.tr g1668 (by decide +kernel) (by decide +kernel)
            have c1673 : I1665 a1 4 = v45 := (g1668.cell ta1 (by decide +kernel)).trans c1530
            have hO1674 : FrO 14 a1 T I0 I1665 := hO1533.st g1668 (by decide +kernel)
            obtain ⟨v1675, c1676⟩ : ∃ v, I1665 a0 9 = v := ⟨_, rfl⟩
            have b1677 := iv15_9 hS1672.1 ta0 c1676
            rw [c1676] at p1669
            obtain ⟨v1678, c1679⟩ : ∃ v, I1665 a0 13 = v := ⟨_, rfl⟩
            rw [c1679] at p1670
            rw [c1539] at p1670
            obtain ⟨v1680, c1681⟩ : ∃ v, I1665 a0 14 = v := ⟨_, rfl⟩
            rw [c1681] at p1671
            rw [c1541] at p1671
            have eF := hF.eq
            have eP := hP.eq
            obtain ⟨v1682, c1683⟩ : ∃ v, I1665 a0 10 = v := ⟨_, rfl⟩
            have b1684 := iv15_10 hS1672.1 ta0 c1683
            obtain ⟨v1685, c1686⟩ : ∃ v, I1665 a0 11 = v := ⟨_, rfl⟩
            obtain ⟨y1687, c1688⟩ : ∃ v, L1667 a0 15 = v := ⟨_, rfl⟩
            obtain ⟨v1689, c1690⟩ : ∃ v, I1665 a0 12 = v := ⟨_, rfl⟩
            obtain ⟨v1691, c1692⟩ : ∃ v, I1665 a0 8 = v := ⟨_, rfl⟩
            have b1693 := iv15_8 hS1672.1 ta0 c1692
            exact ⟨rfl, rfl, rfl, rfl, rfl, hS1672, (fun dr hd => (Option.some.inj (d2.symm.trans hd)) ▸ hO1674), (Or.inr (⟨(by first | done | with_reducible assumption | omega), (by (try rw [c1676]); first | done | with_reducible assumption | omega), (by (try rw [c1679]); first | done | with_reducible assumption | omega), (by (try rw [c1681]); first | done | with_reducible assumption | omega), trivial⟩)), trivial⟩
          · skip
            exfalso; omega
      · skip
        refine q_iconst dX12_readTurner_41 (by decide) ?_
        intro v1694 h1695
        refine tr_goto 73 dX12_readTurner_42 (by decide) ?_
        refine tr_istore_n dX12_readTurner_73 (by decide) (by decide) ?_
        refine tr_iload_n dX12_readTurner_74 rfl ?_
        refine q_iconst dX12_readTurner_75 (by decide) ?_
        intro v1696 h1697
        refine q_icmp_ne 84 dX12_readTurner_76 (by decide) (fun h1698 => ?_) (fun h1698 => ?_)
        · skip
          refine sf_tuO hE hZ hS1508.1 (gB) ta0 (by (try rw [c1515]); first | done | with_reducible assumption | omega) ⟨_, d2⟩ rfl rfl rfl ?_
          rintro I1699 R1700 L1701 ⟨g1702, p1703, p1704, p1705, -⟩
          obtain rfl : R0 = R1700 := funext fun a => funext fun j => (g1702.2.2 a j (wm_no rfl)).symm
          have hS1706 := hS1508.tr g1702 (by decide +kernel) (by decide +kernel)
          have c1707 : I1699 a1 4 = v45 := (g1702.cell ta1 (by decide +kernel)).trans c1509
          have hO1708 : FrO 14 a1 T I0 I1699 := hO1512.st g1702 (by decide +kernel)
          obtain ⟨v1709, c1710⟩ : ∃ v, I1699 a0 9 = v := ⟨_, rfl⟩
          have b1711 := iv15_9 hS1706.1 ta0 c1710
          rw [c1710] at p1703
          obtain ⟨v1712, c1713⟩ : ∃ v, I1699 a0 13 = v := ⟨_, rfl⟩
          rw [c1713] at p1704
          rw [c1518] at p1704
          obtain ⟨v1714, c1715⟩ : ∃ v, I1699 a0 14 = v := ⟨_, rfl⟩
          rw [c1715] at p1705
          rw [c1520] at p1705
          have eF := hF.eq
          have eP := hP.eq
          obtain ⟨v1716, c1717⟩ : ∃ v, I1699 a0 10 = v := ⟨_, rfl⟩
          have b1718 := iv15_10 hS1706.1 ta0 c1717
          obtain ⟨v1719, c1720⟩ : ∃ v, I1699 a0 11 = v := ⟨_, rfl⟩
          obtain ⟨y1721, c1722⟩ : ∃ v, L1701 a0 15 = v := ⟨_, rfl⟩
          obtain ⟨v1723, c1724⟩ : ∃ v, I1699 a0 12 = v := ⟨_, rfl⟩
          obtain ⟨v1725, c1726⟩ : ∃ v, I1699 a0 8 = v := ⟨_, rfl⟩
          have b1727 := iv15_8 hS1706.1 ta0 c1726
          exact ⟨rfl, rfl, rfl, rfl, rfl, hS1706, (fun dr hd => (Option.some.inj (d2.symm.trans hd)) ▸ hO1708), (Or.inr (⟨(by first | done | with_reducible assumption | omega), (by (try rw [c1710]); first | done | with_reducible assumption | omega), (by (try rw [c1713]); first | done | with_reducible assumption | omega), (by (try rw [c1715]); first | done | with_reducible assumption | omega), trivial⟩)), trivial⟩
        · skip
          exfalso; omega
    · skip
      refine q_iconst dX12_readTurner_27 (by decide) ?_
      intro v1728 h1729
      refine tr_goto 73 dX12_readTurner_28 (by decide) ?_
      refine tr_istore_n dX12_readTurner_73 (by decide) (by decide) ?_
      refine tr_iload_n dX12_readTurner_74 rfl ?_
      refine q_iconst dX12_readTurner_75 (by decide) ?_
      intro v1730 h1731
      refine q_icmp_ne 84 dX12_readTurner_76 (by decide) (fun h1732 => ?_) (fun h1732 => ?_)
      · skip
        refine sf_tuO hE hZ hS1487.1 (gB) ta0 (by (try rw [c1494]); first | done | with_reducible assumption | omega) ⟨_, d2⟩ rfl rfl rfl ?_
        rintro I1733 R1734 L1735 ⟨g1736, p1737, p1738, p1739, -⟩
        obtain rfl : R0 = R1734 := funext fun a => funext fun j => (g1736.2.2 a j (wm_no rfl)).symm
        have hS1740 := hS1487.tr g1736 (by decide +kernel) (by decide +kernel)
        have c1741 : I1733 a1 4 = v45 := (g1736.cell ta1 (by decide +kernel)).trans c1488
        have hO1742 : FrO 14 a1 T I0 I1733 := hO1491.st g1736 (by decide +kernel)
        obtain ⟨v1743, c1744⟩ : ∃ v, I1733 a0 9 = v := ⟨_, rfl⟩
        have b1745 := iv15_9 hS1740.1 ta0 c1744
        rw [c1744] at p1737
        obtain ⟨v1746, c1747⟩ : ∃ v, I1733 a0 13 = v := ⟨_, rfl⟩
        rw [c1747] at p1738
        rw [c1497] at p1738
        obtain ⟨v1748, c1749⟩ : ∃ v, I1733 a0 14 = v := ⟨_, rfl⟩
        rw [c1749] at p1739
        rw [c1499] at p1739
        have eF := hF.eq
        have eP := hP.eq
        obtain ⟨v1750, c1751⟩ : ∃ v, I1733 a0 10 = v := ⟨_, rfl⟩
        have b1752 := iv15_10 hS1740.1 ta0 c1751
        obtain ⟨v1753, c1754⟩ : ∃ v, I1733 a0 11 = v := ⟨_, rfl⟩
        obtain ⟨y1755, c1756⟩ : ∃ v, L1735 a0 15 = v := ⟨_, rfl⟩
        obtain ⟨v1757, c1758⟩ : ∃ v, I1733 a0 12 = v := ⟨_, rfl⟩
        obtain ⟨v1759, c1760⟩ : ∃ v, I1733 a0 8 = v := ⟨_, rfl⟩
        have b1761 := iv15_8 hS1740.1 ta0 c1760
        exact ⟨rfl, rfl, rfl, rfl, rfl, hS1740, (fun dr hd => (Option.some.inj (d2.symm.trans hd)) ▸ hO1742), (Or.inr (⟨(by first | done | with_reducible assumption | omega), (by (try rw [c1744]); first | done | with_reducible assumption | omega), (by (try rw [c1747]); first | done | with_reducible assumption | omega), (by (try rw [c1749]); first | done | with_reducible assumption | omega), trivial⟩)), trivial⟩
      · skip
        exfalso; omega
  · skip
    obtain ⟨v1762, c1763⟩ : ∃ v, I68 a0 9 = v := ⟨_, rfl⟩
    have b1764 := iv15_9 hS76.1 ta0 c1763
    rw [c1763] at p96
    obtain ⟨v1765, c1766⟩ : ∃ v, I68 a0 13 = v := ⟨_, rfl⟩
    rw [c1766] at p97
    obtain ⟨v1767, c1768⟩ : ∃ v, I68 a0 14 = v := ⟨_, rfl⟩
    rw [c1768] at p98
    have p1769 := p61
    unfold Q7M at p1769
    replace hF := hF.neg (by omega)
    replace hP := hP.neg (by omega)
    replace hF := hF.pos (by omega)
    replace hP := hP.pos (by omega)
    clear p1769
    refine tr_aload_n dX12_readTurner_12 rfl ?_
    refine q_callVl hE (M' := mX12_readFresh) (as := []) dX12_readTurner_13 lk12_285 inX12_readFresh seX12_readFresh myX12_readFresh (by decide) ⟨by decide, by decide⟩ rfl (kR15 hS76.1 ta0) (Nat.le_of_ble_eq_true rfl) rfl rfl (by decide) (by decide) (k_X12_readFresh hS76.1 ta0 ⟨_, d2⟩) ?_
    rintro y1774 cn' K' N' I1770 R1771 L1772 ⟨rfl, rfl, rfl, rfl, g1773, w1775, -⟩
    have hS1776 := hS76.tr g1773 (by decide +kernel) (by decide +kernel)
    have c1777 : I1770 a1 4 = v45 := (g1773.cell ta1 (by decide +kernel)).trans c77
    have hO1778 : FrO 14 a1 T I0 I1770 := hO78.st g1773 (by decide +kernel)
    have ov1779 := w1775.over (by rw [c1763]; omega)
    obtain ⟨v1780, c1781⟩ : ∃ v, I1770 a0 9 = v := ⟨_, rfl⟩
    have b1782 := iv15_9 hS1776.1 ta0 c1781
    obtain ⟨v1783, c1784⟩ : ∃ v, I1770 a0 13 = v := ⟨_, rfl⟩
    obtain ⟨v1785, c1786⟩ : ∃ v, I1770 a0 14 = v := ⟨_, rfl⟩
    (try rw [c1781] at ov1779)
    (try rw [c1784] at ov1779)
    (try rw [c1786] at ov1779)
    (try rw [c1763] at ov1779)
    (try rw [c1766] at ov1779)
    (try rw [c1768] at ov1779)
    refine tr_lstore_n dX12_readTurner_16 (by decide) (by decide) (by decide) ?_
    refine tr_aload_n dX12_readTurner_17 rfl ?_
    refine tr_ldcwS dX12_readTurner_18 ld12_318 ?_
    refine q_callVi hE (M' := mX12_eatsWord) (as := [_]) dX12_readTurner_21 lk12_290 inX12_eatsWord seX12_eatsWord myX12_eatsWord (by decide) ⟨by decide, by decide⟩ rfl (kR15 hS1776.1 ta0) (Nat.le_of_ble_eq_true rfl) rfl rfl (by decide) (by decide) (k_X12_eatsWord hS1776.1 ta0 (by decide)) ?_
    rintro v1791 cn' K' N' I1787 R1788 L1789 ⟨rfl, rfl, rfl, rfl, g1790, h1792, w1793, -⟩
    have hS1794 := hS1776.tr g1790 (by decide +kernel) (by decide +kernel)
    have c1795 : I1787 a1 4 = v45 := (g1790.cell ta1 (by decide +kernel)).trans c1777
    have c1796 : I1787 a0 13 = v1783 := (g1790.cell ta0 (by decide +kernel)).trans c1784
    have c1797 : I1787 a0 14 = v1785 := (g1790.cell ta0 (by decide +kernel)).trans c1786
    have hO1798 : FrO 14 a1 T I0 I1787 := hO1778.st g1790 (by decide +kernel)
    have ov1799 := w1793.over (by rw [c1781]; omega)
    obtain ⟨v1800, c1801⟩ : ∃ v, I1787 a0 9 = v := ⟨_, rfl⟩
    have b1802 := iv15_9 hS1794.1 ta0 c1801
    obtain ⟨v1803, c1804⟩ : ∃ v, I1787 a0 13 = v := ⟨_, rfl⟩
    obtain ⟨v1805, c1806⟩ : ∃ v, I1787 a0 14 = v := ⟨_, rfl⟩
    (try rw [c1801] at ov1799)
    (try rw [c1804] at ov1799)
    (try rw [c1806] at ov1799)
    (try rw [c1781] at ov1799)
    (try rw [c1784] at ov1799)
    (try rw [c1786] at ov1799)
    refine q_if_eq 31 dX12_readTurner_24 (by decide) (fun h1807 => ?_) (fun h1807 => ?_)
    · skip
      refine tr_aload_n dX12_readTurner_31 rfl ?_
      refine tr_ldcwS dX12_readTurner_32 ld12_320 ?_
      refine q_callVi hE (M' := mX12_eatsWord) (as := [_]) dX12_readTurner_35 lk12_290 inX12_eatsWord seX12_eatsWord myX12_eatsWord (by decide) ⟨by decide, by decide⟩ rfl (kR15 hS1794.1 ta0) (Nat.le_of_ble_eq_true rfl) rfl rfl (by decide) (by decide) (k_X12_eatsWord hS1794.1 ta0 (by decide)) ?_
      rintro v1812 cn' K' N' I1808 R1809 L1810 ⟨rfl, rfl, rfl, rfl, g1811, h1813, w1814, -⟩
      have hS1815 := hS1794.tr g1811 (by decide +kernel) (by decide +kernel)
      have c1816 : I1808 a1 4 = v45 := (g1811.cell ta1 (by decide +kernel)).trans c1795
      have c1817 : I1808 a0 13 = v1803 := (g1811.cell ta0 (by decide +kernel)).trans c1804
      have c1818 : I1808 a0 14 = v1805 := (g1811.cell ta0 (by decide +kernel)).trans c1806
      have hO1819 : FrO 14 a1 T I0 I1808 := hO1798.st g1811 (by decide +kernel)
      have ov1820 := w1814.over (by rw [c1801]; omega)
      obtain ⟨v1821, c1822⟩ : ∃ v, I1808 a0 9 = v := ⟨_, rfl⟩
      have b1823 := iv15_9 hS1815.1 ta0 c1822
      obtain ⟨v1824, c1825⟩ : ∃ v, I1808 a0 13 = v := ⟨_, rfl⟩
      obtain ⟨v1826, c1827⟩ : ∃ v, I1808 a0 14 = v := ⟨_, rfl⟩
      (try rw [c1822] at ov1820)
      (try rw [c1825] at ov1820)
      (try rw [c1827] at ov1820)
      (try rw [c1801] at ov1820)
      (try rw [c1804] at ov1820)
      (try rw [c1806] at ov1820)
      refine q_if_eq 45 dX12_readTurner_38 (by decide) (fun h1828 => ?_) (fun h1828 => ?_)
      · skip
        refine tr_aload_n dX12_readTurner_45 rfl ?_
        refine tr_ldcwS dX12_readTurner_46 ld12_322 ?_
        refine q_callVi hE (M' := mX12_eatsWord) (as := [_]) dX12_readTurner_49 lk12_290 inX12_eatsWord seX12_eatsWord myX12_eatsWord (by decide) ⟨by decide, by decide⟩ rfl (kR15 hS1815.1 ta0) (Nat.le_of_ble_eq_true rfl) rfl rfl (by decide) (by decide) (k_X12_eatsWord hS1815.1 ta0 (by decide)) ?_
        rintro v1833 cn' K' N' I1829 R1830 L1831 ⟨rfl, rfl, rfl, rfl, g1832, h1834, w1835, -⟩
        have hS1836 := hS1815.tr g1832 (by decide +kernel) (by decide +kernel)
        have c1837 : I1829 a1 4 = v45 := (g1832.cell ta1 (by decide +kernel)).trans c1816
        have c1838 : I1829 a0 13 = v1824 := (g1832.cell ta0 (by decide +kernel)).trans c1825
        have c1839 : I1829 a0 14 = v1826 := (g1832.cell ta0 (by decide +kernel)).trans c1827
        have hO1840 : FrO 14 a1 T I0 I1829 := hO1819.st g1832 (by decide +kernel)
        have ov1841 := w1835.over (by rw [c1822]; omega)
        obtain ⟨v1842, c1843⟩ : ∃ v, I1829 a0 9 = v := ⟨_, rfl⟩
        have b1844 := iv15_9 hS1836.1 ta0 c1843
        obtain ⟨v1845, c1846⟩ : ∃ v, I1829 a0 13 = v := ⟨_, rfl⟩
        obtain ⟨v1847, c1848⟩ : ∃ v, I1829 a0 14 = v := ⟨_, rfl⟩
        (try rw [c1843] at ov1841)
        (try rw [c1846] at ov1841)
        (try rw [c1848] at ov1841)
        (try rw [c1822] at ov1841)
        (try rw [c1825] at ov1841)
        (try rw [c1827] at ov1841)
        refine q_if_eq 59 dX12_readTurner_52 (by decide) (fun h1849 => ?_) (fun h1849 => ?_)
        · skip
          refine tr_aload_n dX12_readTurner_59 rfl ?_
          refine tr_ldcS dX12_readTurner_60 ld12_178 ?_
          refine q_callVi hE (M' := mX12_eatsWord) (as := [_]) dX12_readTurner_62 lk12_290 inX12_eatsWord seX12_eatsWord myX12_eatsWord (by decide) ⟨by decide, by decide⟩ rfl (kR15 hS1836.1 ta0) (Nat.le_of_ble_eq_true rfl) rfl rfl (by decide) (by decide) (k_X12_eatsWord hS1836.1 ta0 (by decide)) ?_
          rintro v1854 cn' K' N' I1850 R1851 L1852 ⟨rfl, rfl, rfl, rfl, g1853, h1855, w1856, -⟩
          have hS1857 := hS1836.tr g1853 (by decide +kernel) (by decide +kernel)
          have c1858 : I1850 a1 4 = v45 := (g1853.cell ta1 (by decide +kernel)).trans c1837
          have c1859 : I1850 a0 13 = v1845 := (g1853.cell ta0 (by decide +kernel)).trans c1846
          have c1860 : I1850 a0 14 = v1847 := (g1853.cell ta0 (by decide +kernel)).trans c1848
          have hO1861 : FrO 14 a1 T I0 I1850 := hO1840.st g1853 (by decide +kernel)
          have ov1862 := w1856.over (by rw [c1843]; omega)
          obtain ⟨v1863, c1864⟩ : ∃ v, I1850 a0 9 = v := ⟨_, rfl⟩
          have b1865 := iv15_9 hS1857.1 ta0 c1864
          obtain ⟨v1866, c1867⟩ : ∃ v, I1850 a0 13 = v := ⟨_, rfl⟩
          obtain ⟨v1868, c1869⟩ : ∃ v, I1850 a0 14 = v := ⟨_, rfl⟩
          (try rw [c1864] at ov1862)
          (try rw [c1867] at ov1862)
          (try rw [c1869] at ov1862)
          (try rw [c1843] at ov1862)
          (try rw [c1846] at ov1862)
          (try rw [c1848] at ov1862)
          refine q_if_eq 72 dX12_readTurner_65 (by decide) (fun h1870 => ?_) (fun h1870 => ?_)
          · skip
            refine q_iconst dX12_readTurner_72 (by decide) ?_
            intro v1871 h1872
            refine tr_istore_n dX12_readTurner_73 (by decide) (by decide) ?_
            refine tr_iload_n dX12_readTurner_74 rfl ?_
            refine q_iconst dX12_readTurner_75 (by decide) ?_
            intro v1873 h1874
            refine q_icmp_ne 84 dX12_readTurner_76 (by decide) (fun h1875 => ?_) (fun h1875 => ?_)
            · skip
              exfalso; omega
            · skip
              refine tr_aload_n dX12_readTurner_79 rfl ?_
              refine q_iconst dX12_readTurner_80 (by decide) ?_
              intro v1876 h1877
              obtain ⟨v1878, c1879⟩ : ∃ v, I1850 a0 8 = v := ⟨_, rfl⟩
              have b1880 := iv15_8 hS1857.1 ta0 c1879
              refine q_callVv hE (M' := mX12_flaw) (as := [_]) dX12_readTurner_81 lk12_145 inX12_flaw seX12_flaw myX12_flaw (by decide) ⟨by decide, by decide⟩ rfl (kR15 hS1857.1 ta0) (Nat.le_of_ble_eq_true rfl) rfl rfl (by decide) (by decide) (k_X12_flaw hS1857.1 ta0 (by omega)) ?_
              rintro cn' K' N' I1881 R1882 L1883 ⟨rfl, rfl, rfl, rfl, rfl, g1884, p1886, p1887, w1888, -⟩
              have hS1889 := hS1857.tr g1884 (by decide +kernel) (by decide +kernel)
              have c1890 : I1881 a1 4 = v45 := (g1884.cell ta1 (by decide +kernel)).trans c1858
              have c1891 : I1881 a0 8 = v1878 := (g1884.cell ta0 (by decide +kernel)).trans c1879
              obtain ⟨v1892, c1893⟩ : ∃ v, I1881 a0 9 = v := ⟨_, rfl⟩
              have b1894 := iv15_9 hS1889.1 ta0 c1893
              rw [c1893] at p1886
              rw [c1891] at p1887
              rw [c1879] at p1887
              have hO1895 : FrO 14 a1 T I0 I1881 := hO1861.st g1884 (by decide +kernel)
              have ov1896 := w1888.over (by rw [c1864]; omega)
              obtain ⟨v1897, c1898⟩ : ∃ v, I1881 a0 9 = v := ⟨_, rfl⟩
              have b1899 := iv15_9 hS1889.1 ta0 c1898
              obtain ⟨v1900, c1901⟩ : ∃ v, I1881 a0 13 = v := ⟨_, rfl⟩
              obtain ⟨v1902, c1903⟩ : ∃ v, I1881 a0 14 = v := ⟨_, rfl⟩
              (try rw [c1898] at ov1896)
              (try rw [c1901] at ov1896)
              (try rw [c1903] at ov1896)
              (try rw [c1864] at ov1896)
              (try rw [c1867] at ov1896)
              (try rw [c1869] at ov1896)
              refine sf_tuO hE hZ hS1889.1 (gB) ta0 (by (try rw [c1898]); first | done | with_reducible assumption | omega) ⟨_, d2⟩ rfl rfl rfl ?_
              rintro I1904 R1905 L1906 ⟨g1907, p1908, p1909, p1910, -⟩
              obtain rfl : R0 = R1905 := funext fun a => funext fun j => (g1907.2.2 a j (wm_no rfl)).symm
              have hS1911 := hS1889.tr g1907 (by decide +kernel) (by decide +kernel)
              have c1912 : I1904 a1 4 = v45 := (g1907.cell ta1 (by decide +kernel)).trans c1890
              have hO1913 : FrO 14 a1 T I0 I1904 := hO1895.st g1907 (by decide +kernel)
              obtain ⟨v1914, c1915⟩ : ∃ v, I1904 a0 9 = v := ⟨_, rfl⟩
              have b1916 := iv15_9 hS1911.1 ta0 c1915
              rw [c1915] at p1908
              obtain ⟨v1917, c1918⟩ : ∃ v, I1904 a0 13 = v := ⟨_, rfl⟩
              rw [c1918] at p1909
              rw [c1901] at p1909
              obtain ⟨v1919, c1920⟩ : ∃ v, I1904 a0 14 = v := ⟨_, rfl⟩
              rw [c1920] at p1910
              rw [c1903] at p1910
              have eF := hF.eq
              have eP := hP.eq
              obtain ⟨v1921, c1922⟩ : ∃ v, I1904 a0 10 = v := ⟨_, rfl⟩
              have b1923 := iv15_10 hS1911.1 ta0 c1922
              obtain ⟨v1924, c1925⟩ : ∃ v, I1904 a0 11 = v := ⟨_, rfl⟩
              obtain ⟨y1926, c1927⟩ : ∃ v, L1906 a0 15 = v := ⟨_, rfl⟩
              obtain ⟨v1928, c1929⟩ : ∃ v, I1904 a0 12 = v := ⟨_, rfl⟩
              obtain ⟨v1930, c1931⟩ : ∃ v, I1904 a0 8 = v := ⟨_, rfl⟩
              have b1932 := iv15_8 hS1911.1 ta0 c1931
              exact ⟨rfl, rfl, rfl, rfl, rfl, hS1911, (fun dr hd => (Option.some.inj (d2.symm.trans hd)) ▸ hO1913), (Or.inr (⟨(by first | done | with_reducible assumption | omega), (by (try rw [c1915]); first | done | with_reducible assumption | omega), (by (try rw [c1918]); first | done | with_reducible assumption | omega), (by (try rw [c1920]); first | done | with_reducible assumption | omega), trivial⟩)), trivial⟩
          · skip
            refine q_iconst dX12_readTurner_68 (by decide) ?_
            intro v1933 h1934
            refine tr_goto 73 dX12_readTurner_69 (by decide) ?_
            refine tr_istore_n dX12_readTurner_73 (by decide) (by decide) ?_
            refine tr_iload_n dX12_readTurner_74 rfl ?_
            refine q_iconst dX12_readTurner_75 (by decide) ?_
            intro v1935 h1936
            refine q_icmp_ne 84 dX12_readTurner_76 (by decide) (fun h1937 => ?_) (fun h1937 => ?_)
            · skip
              refine sf_tuO hE hZ hS1857.1 (gB) ta0 (by (try rw [c1864]); first | done | with_reducible assumption | omega) ⟨_, d2⟩ rfl rfl rfl ?_
              rintro I1938 R1939 L1940 ⟨g1941, p1942, p1943, p1944, -⟩
              obtain rfl : R0 = R1939 := funext fun a => funext fun j => (g1941.2.2 a j (wm_no rfl)).symm
              have hS1945 := hS1857.tr g1941 (by decide +kernel) (by decide +kernel)
              have c1946 : I1938 a1 4 = v45 := (g1941.cell ta1 (by decide +kernel)).trans c1858
              have hO1947 : FrO 14 a1 T I0 I1938 := hO1861.st g1941 (by decide +kernel)
              obtain ⟨v1948, c1949⟩ : ∃ v, I1938 a0 9 = v := ⟨_, rfl⟩
              have b1950 := iv15_9 hS1945.1 ta0 c1949
              rw [c1949] at p1942
              obtain ⟨v1951, c1952⟩ : ∃ v, I1938 a0 13 = v := ⟨_, rfl⟩
              rw [c1952] at p1943
              rw [c1867] at p1943
              obtain ⟨v1953, c1954⟩ : ∃ v, I1938 a0 14 = v := ⟨_, rfl⟩
              rw [c1954] at p1944
              rw [c1869] at p1944
              have eF := hF.eq
              have eP := hP.eq
              obtain ⟨v1955, c1956⟩ : ∃ v, I1938 a0 10 = v := ⟨_, rfl⟩
              have b1957 := iv15_10 hS1945.1 ta0 c1956
              obtain ⟨v1958, c1959⟩ : ∃ v, I1938 a0 11 = v := ⟨_, rfl⟩
              obtain ⟨y1960, c1961⟩ : ∃ v, L1940 a0 15 = v := ⟨_, rfl⟩
              obtain ⟨v1962, c1963⟩ : ∃ v, I1938 a0 12 = v := ⟨_, rfl⟩
              obtain ⟨v1964, c1965⟩ : ∃ v, I1938 a0 8 = v := ⟨_, rfl⟩
              have b1966 := iv15_8 hS1945.1 ta0 c1965
              exact ⟨rfl, rfl, rfl, rfl, rfl, hS1945, (fun dr hd => (Option.some.inj (d2.symm.trans hd)) ▸ hO1947), (Or.inr (⟨(by first | done | with_reducible assumption | omega), (by (try rw [c1949]); first | done | with_reducible assumption | omega), (by (try rw [c1952]); first | done | with_reducible assumption | omega), (by (try rw [c1954]); first | done | with_reducible assumption | omega), trivial⟩)), trivial⟩
            · skip
              exfalso; omega
        · skip
          refine q_iconst dX12_readTurner_55 (by decide) ?_
          intro v1967 h1968
          refine tr_goto 73 dX12_readTurner_56 (by decide) ?_
          refine tr_istore_n dX12_readTurner_73 (by decide) (by decide) ?_
          refine tr_iload_n dX12_readTurner_74 rfl ?_
          refine q_iconst dX12_readTurner_75 (by decide) ?_
          intro v1969 h1970
          refine q_icmp_ne 84 dX12_readTurner_76 (by decide) (fun h1971 => ?_) (fun h1971 => ?_)
          · skip
            refine sf_tuO hE hZ hS1836.1 (gB) ta0 (by (try rw [c1843]); first | done | with_reducible assumption | omega) ⟨_, d2⟩ rfl rfl rfl ?_
            rintro I1972 R1973 L1974 ⟨g1975, p1976, p1977, p1978, -⟩
            obtain rfl : R0 = R1973 := funext fun a => funext fun j => (g1975.2.2 a j (wm_no rfl)).symm
            have hS1979 := hS1836.tr g1975 (by decide +kernel) (by decide +kernel)
            have c1980 : I1972 a1 4 = v45 := (g1975.cell ta1 (by decide +kernel)).trans c1837
            have hO1981 : FrO 14 a1 T I0 I1972 := hO1840.st g1975 (by decide +kernel)
            obtain ⟨v1982, c1983⟩ : ∃ v, I1972 a0 9 = v := ⟨_, rfl⟩
            have b1984 := iv15_9 hS1979.1 ta0 c1983
            rw [c1983] at p1976
            obtain ⟨v1985, c1986⟩ : ∃ v, I1972 a0 13 = v := ⟨_, rfl⟩
            rw [c1986] at p1977
            rw [c1846] at p1977
            obtain ⟨v1987, c1988⟩ : ∃ v, I1972 a0 14 = v := ⟨_, rfl⟩
            rw [c1988] at p1978
            rw [c1848] at p1978
            have eF := hF.eq
            have eP := hP.eq
            obtain ⟨v1989, c1990⟩ : ∃ v, I1972 a0 10 = v := ⟨_, rfl⟩
            have b1991 := iv15_10 hS1979.1 ta0 c1990
            obtain ⟨v1992, c1993⟩ : ∃ v, I1972 a0 11 = v := ⟨_, rfl⟩
            obtain ⟨y1994, c1995⟩ : ∃ v, L1974 a0 15 = v := ⟨_, rfl⟩
            obtain ⟨v1996, c1997⟩ : ∃ v, I1972 a0 12 = v := ⟨_, rfl⟩
            obtain ⟨v1998, c1999⟩ : ∃ v, I1972 a0 8 = v := ⟨_, rfl⟩
            have b2000 := iv15_8 hS1979.1 ta0 c1999
            exact ⟨rfl, rfl, rfl, rfl, rfl, hS1979, (fun dr hd => (Option.some.inj (d2.symm.trans hd)) ▸ hO1981), (Or.inr (⟨(by first | done | with_reducible assumption | omega), (by (try rw [c1983]); first | done | with_reducible assumption | omega), (by (try rw [c1986]); first | done | with_reducible assumption | omega), (by (try rw [c1988]); first | done | with_reducible assumption | omega), trivial⟩)), trivial⟩
          · skip
            exfalso; omega
      · skip
        refine q_iconst dX12_readTurner_41 (by decide) ?_
        intro v2001 h2002
        refine tr_goto 73 dX12_readTurner_42 (by decide) ?_
        refine tr_istore_n dX12_readTurner_73 (by decide) (by decide) ?_
        refine tr_iload_n dX12_readTurner_74 rfl ?_
        refine q_iconst dX12_readTurner_75 (by decide) ?_
        intro v2003 h2004
        refine q_icmp_ne 84 dX12_readTurner_76 (by decide) (fun h2005 => ?_) (fun h2005 => ?_)
        · skip
          refine sf_tuO hE hZ hS1815.1 (gB) ta0 (by (try rw [c1822]); first | done | with_reducible assumption | omega) ⟨_, d2⟩ rfl rfl rfl ?_
          rintro I2006 R2007 L2008 ⟨g2009, p2010, p2011, p2012, -⟩
          obtain rfl : R0 = R2007 := funext fun a => funext fun j => (g2009.2.2 a j (wm_no rfl)).symm
          have hS2013 := hS1815.tr g2009 (by decide +kernel) (by decide +kernel)
          have c2014 : I2006 a1 4 = v45 := (g2009.cell ta1 (by decide +kernel)).trans c1816
          have hO2015 : FrO 14 a1 T I0 I2006 := hO1819.st g2009 (by decide +kernel)
          obtain ⟨v2016, c2017⟩ : ∃ v, I2006 a0 9 = v := ⟨_, rfl⟩
          have b2018 := iv15_9 hS2013.1 ta0 c2017
          rw [c2017] at p2010
          obtain ⟨v2019, c2020⟩ : ∃ v, I2006 a0 13 = v := ⟨_, rfl⟩
          rw [c2020] at p2011
          rw [c1825] at p2011
          obtain ⟨v2021, c2022⟩ : ∃ v, I2006 a0 14 = v := ⟨_, rfl⟩
          rw [c2022] at p2012
          rw [c1827] at p2012
          have eF := hF.eq
          have eP := hP.eq
          obtain ⟨v2023, c2024⟩ : ∃ v, I2006 a0 10 = v := ⟨_, rfl⟩
          have b2025 := iv15_10 hS2013.1 ta0 c2024
          obtain ⟨v2026, c2027⟩ : ∃ v, I2006 a0 11 = v := ⟨_, rfl⟩
          obtain ⟨y2028, c2029⟩ : ∃ v, L2008 a0 15 = v := ⟨_, rfl⟩
          obtain ⟨v2030, c2031⟩ : ∃ v, I2006 a0 12 = v := ⟨_, rfl⟩
          obtain ⟨v2032, c2033⟩ : ∃ v, I2006 a0 8 = v := ⟨_, rfl⟩
          have b2034 := iv15_8 hS2013.1 ta0 c2033
          exact ⟨rfl, rfl, rfl, rfl, rfl, hS2013, (fun dr hd => (Option.some.inj (d2.symm.trans hd)) ▸ hO2015), (Or.inr (⟨(by first | done | with_reducible assumption | omega), (by (try rw [c2017]); first | done | with_reducible assumption | omega), (by (try rw [c2020]); first | done | with_reducible assumption | omega), (by (try rw [c2022]); first | done | with_reducible assumption | omega), trivial⟩)), trivial⟩
        · skip
          exfalso; omega
    · skip
      refine q_iconst dX12_readTurner_27 (by decide) ?_
      intro v2035 h2036
      refine tr_goto 73 dX12_readTurner_28 (by decide) ?_
      refine tr_istore_n dX12_readTurner_73 (by decide) (by decide) ?_
      refine tr_iload_n dX12_readTurner_74 rfl ?_
      refine q_iconst dX12_readTurner_75 (by decide) ?_
      intro v2037 h2038
      refine q_icmp_ne 84 dX12_readTurner_76 (by decide) (fun h2039 => ?_) (fun h2039 => ?_)
      · skip
        refine sf_tuO hE hZ hS1794.1 (gB) ta0 (by (try rw [c1801]); first | done | with_reducible assumption | omega) ⟨_, d2⟩ rfl rfl rfl ?_
        rintro I2040 R2041 L2042 ⟨g2043, p2044, p2045, p2046, -⟩
        obtain rfl : R0 = R2041 := funext fun a => funext fun j => (g2043.2.2 a j (wm_no rfl)).symm
        have hS2047 := hS1794.tr g2043 (by decide +kernel) (by decide +kernel)
        have c2048 : I2040 a1 4 = v45 := (g2043.cell ta1 (by decide +kernel)).trans c1795
        have hO2049 : FrO 14 a1 T I0 I2040 := hO1798.st g2043 (by decide +kernel)
        obtain ⟨v2050, c2051⟩ : ∃ v, I2040 a0 9 = v := ⟨_, rfl⟩
        have b2052 := iv15_9 hS2047.1 ta0 c2051
        rw [c2051] at p2044
        obtain ⟨v2053, c2054⟩ : ∃ v, I2040 a0 13 = v := ⟨_, rfl⟩
        rw [c2054] at p2045
        rw [c1804] at p2045
        obtain ⟨v2055, c2056⟩ : ∃ v, I2040 a0 14 = v := ⟨_, rfl⟩
        rw [c2056] at p2046
        rw [c1806] at p2046
        have eF := hF.eq
        have eP := hP.eq
        obtain ⟨v2057, c2058⟩ : ∃ v, I2040 a0 10 = v := ⟨_, rfl⟩
        have b2059 := iv15_10 hS2047.1 ta0 c2058
        obtain ⟨v2060, c2061⟩ : ∃ v, I2040 a0 11 = v := ⟨_, rfl⟩
        obtain ⟨y2062, c2063⟩ : ∃ v, L2042 a0 15 = v := ⟨_, rfl⟩
        obtain ⟨v2064, c2065⟩ : ∃ v, I2040 a0 12 = v := ⟨_, rfl⟩
        obtain ⟨v2066, c2067⟩ : ∃ v, I2040 a0 8 = v := ⟨_, rfl⟩
        have b2068 := iv15_8 hS2047.1 ta0 c2067
        exact ⟨rfl, rfl, rfl, rfl, rfl, hS2047, (fun dr hd => (Option.some.inj (d2.symm.trans hd)) ▸ hO2049), (Or.inr (⟨(by first | done | with_reducible assumption | omega), (by (try rw [c2051]); first | done | with_reducible assumption | omega), (by (try rw [c2054]); first | done | with_reducible assumption | omega), (by (try rw [c2056]); first | done | with_reducible assumption | omega), trivial⟩)), trivial⟩
      · skip
        exfalso; omega
