def wif_tuO : List Nat := [968, 969, 970, 971, 972, 973, 974]
def wrf_tuO : List Nat := []
def wlf_tuO : List Nat := []
set_option maxHeartbeats 4000000 in
theorem sf_tuO {X : cz_X} (hE : cz_env X) {T : Nat → Nat} {cn : Nat} {K N : Nat → Nat} {I0 : cz_I} {R0 : cz_R} {L0 : cz_L} {Q : cz_Q} (hZ : cz_Z X mX12_readTurner Q) (hW0 : Wf T cn K N I0 R0 0) (gB : cz_B) {a0 : Nat} (ta0 : T a0 = 15) {y1 : Int64} {x2 : Int32} (pre0 : (I0 a0 9).toInt = 5) (nn4 : ∃ b, R0 a0 4 = some b) {ls : Nat → Option Value} (hl0 : ls 0 = some (.ref a0)) (hl1 : ls 1 = some (.long y1)) (hl3 : ls 3 = some (.int x2)) (hq : ∀ (I' : cz_I) (R' : cz_R) (L' : cz_L), St T cn K N 0 wif_tuO wrf_tuO I0 R0 I' R' ∧ ((I' a0 9).toInt = 5) ∧ ((I' a0 13).toInt = (I0 a0 13).toInt) ∧ ((I' a0 14).toInt = (I0 a0 14).toInt) ∧ True → Q none cn K N I' R' L') : Tr X mX12_readTurner 84 ls [] cn K N I0 R0 L0 0 0 := by
  have hS0 : St T cn K N 0 wif_tuO wrf_tuO I0 R0 I0 R0 := St.rf0 hW0
  have hL0 : LgS T wlf_tuO L0 L0 := LgS.rf0
  obtain ⟨a1, d2⟩ := nn4
  have ta1 : T a1 = 14 := hW0.rsN ta0 rfl d2
  obtain ⟨v3, c4⟩ : ∃ v, I0 a0 9 = v := ⟨_, rfl⟩
  have b5 := iv15_9 hS0.1 ta0 c4
  have p6 := pre0
  rw [c4] at p6
  obtain ⟨v7, c8⟩ : ∃ v, I0 a0 13 = v := ⟨_, rfl⟩
  obtain ⟨v9, c10⟩ : ∃ v, I0 a0 14 = v := ⟨_, rfl⟩
  refine tr_aload_n dX12_readTurner_84 hl0 ?_
  refine tr_ldcwS dX12_readTurner_85 ld12_324 ?_
  refine q_iconst dX12_readTurner_88 (by decide) ?_
  intro v11 h12
  refine tr_aload_n dX12_readTurner_89 hl0 ?_
  refine tr_getR dX12_readTurner_90 fl12_188 (kR15 hS0.1 ta0) d2 ?_
  obtain ⟨v13, c14⟩ : ∃ v, I0 a1 0 = v := ⟨_, rfl⟩
  have b15 := iv14_0 hW0 ta1 c14
  refine q_getI dX12_readTurner_93 fl12_192 (kR14 hS0.1 ta1) c14 ?_
  refine q_iconst dX12_readTurner_96 (by decide) ?_
  intro v16 h17
  refine q_isubE dX12_readTurner_97 (by intros; omega) ?_
  intro v18 h19
  refine q_callVi hE (M' := mX12_readPart) (as := [_, _, _]) dX12_readTurner_98 lk12_249 inX12_readPart seX12_readPart myX12_readPart (by decide) ⟨by decide, by decide⟩ rfl (kR15 hS0.1 ta0) (Nat.le_of_ble_eq_true rfl) rfl rfl (by decide) (by decide) (k_X12_readPart hS0.1 ta0 (by decide)) ?_
  rintro v24 cn' K' N' I20 R21 L22 ⟨rfl, rfl, rfl, rfl, g23, p25, w26, -⟩
  have hS27 := hS0.tr g23 (by decide +kernel) (by decide +kernel)
  have b28 : 0 ≤ v24.toInt ∧ v24.toInt ≤ 239 := by omega
  clear p25
  have ov29 := w26.over (by rw [c4]; omega)
  obtain ⟨v30, c31⟩ : ∃ v, I20 a0 9 = v := ⟨_, rfl⟩
  have b32 := iv15_9 hS27.1 ta0 c31
  obtain ⟨v33, c34⟩ : ∃ v, I20 a0 13 = v := ⟨_, rfl⟩
  obtain ⟨v35, c36⟩ : ∃ v, I20 a0 14 = v := ⟨_, rfl⟩
  (try rw [c31] at ov29)
  (try rw [c34] at ov29)
  (try rw [c36] at ov29)
  (try rw [c4] at ov29)
  (try rw [c8] at ov29)
  (try rw [c10] at ov29)
  refine tr_istore dX12_readTurner_101 (by decide) (by decide) ?_
  refine tr_aload_n dX12_readTurner_103 hl0 ?_
  refine tr_ldcwS dX12_readTurner_104 ld12_272 ?_
  refine tr_iload dX12_readTurner_107 rfl ?_
  refine q_iconst dX12_readTurner_109 (by decide) ?_
  intro v37 h38
  refine q_iaddE dX12_readTurner_110 (by intros; omega) ?_
  intro v39 h40
  refine tr_aload_n dX12_readTurner_111 hl0 ?_
  refine tr_getR dX12_readTurner_112 fl12_188 (kR15 hS27.1 ta0) d2 ?_
  refine q_getI dX12_readTurner_115 fl12_192 (kR14 hS27.1 ta1) ((hS27.cell ta1 (by decide +kernel)).trans c14) ?_
  refine q_callVi hE (M' := mX12_readPart) (as := [_, _, _]) dX12_readTurner_118 lk12_249 inX12_readPart seX12_readPart myX12_readPart (by decide) ⟨by decide, by decide⟩ rfl (kR15 hS27.1 ta0) (Nat.le_of_ble_eq_true rfl) rfl rfl (by decide) (by decide) (k_X12_readPart hS27.1 ta0 (by decide)) ?_
  rintro v45 cn' K' N' I41 R42 L43 ⟨rfl, rfl, rfl, rfl, g44, p46, w47, -⟩
  have hS48 := hS27.tr g44 (by decide +kernel) (by decide +kernel)
  have b49 : 1 ≤ v45.toInt ∧ v45.toInt ≤ 240 := by omega
  clear p46
  have ov50 := w47.over (by rw [c31]; omega)
  obtain ⟨v51, c52⟩ : ∃ v, I41 a0 9 = v := ⟨_, rfl⟩
  have b53 := iv15_9 hS48.1 ta0 c52
  obtain ⟨v54, c55⟩ : ∃ v, I41 a0 13 = v := ⟨_, rfl⟩
  obtain ⟨v56, c57⟩ : ∃ v, I41 a0 14 = v := ⟨_, rfl⟩
  (try rw [c52] at ov50)
  (try rw [c55] at ov50)
  (try rw [c57] at ov50)
  (try rw [c31] at ov50)
  (try rw [c34] at ov50)
  (try rw [c36] at ov50)
  refine tr_istore dX12_readTurner_121 (by decide) (by decide) ?_
  refine tr_aload_n dX12_readTurner_123 hl0 ?_
  refine tr_ldcwS dX12_readTurner_124 ld12_325 ?_
  refine q_iconst dX12_readTurner_127 (by decide) ?_
  intro v58 h59
  refine q_bipush dX12_readTurner_128 (by decide +kernel) ?_
  intro v60 h61
  refine q_callVi hE (M' := mX12_readPart) (as := [_, _, _]) dX12_readTurner_130 lk12_249 inX12_readPart seX12_readPart myX12_readPart (by decide) ⟨by decide, by decide⟩ rfl (kR15 hS48.1 ta0) (Nat.le_of_ble_eq_true rfl) rfl rfl (by decide) (by decide) (k_X12_readPart hS48.1 ta0 (by decide)) ?_
  rintro v66 cn' K' N' I62 R63 L64 ⟨rfl, rfl, rfl, rfl, g65, p67, w68, -⟩
  have hS69 := hS48.tr g65 (by decide +kernel) (by decide +kernel)
  have b70 : 1 ≤ v66.toInt ∧ v66.toInt ≤ 8 := by omega
  clear p67
  have ov71 := w68.over (by rw [c52]; omega)
  obtain ⟨v72, c73⟩ : ∃ v, I62 a0 9 = v := ⟨_, rfl⟩
  have b74 := iv15_9 hS69.1 ta0 c73
  obtain ⟨v75, c76⟩ : ∃ v, I62 a0 13 = v := ⟨_, rfl⟩
  obtain ⟨v77, c78⟩ : ∃ v, I62 a0 14 = v := ⟨_, rfl⟩
  (try rw [c73] at ov71)
  (try rw [c76] at ov71)
  (try rw [c78] at ov71)
  (try rw [c52] at ov71)
  (try rw [c55] at ov71)
  (try rw [c57] at ov71)
  refine tr_istore dX12_readTurner_133 (by decide) (by decide) ?_
  refine tr_aload_n dX12_readTurner_135 hl0 ?_
  refine tr_ldcwS dX12_readTurner_136 ld12_327 ?_
  refine q_iconst dX12_readTurner_139 (by decide) ?_
  intro v79 h80
  refine q_bipush dX12_readTurner_140 (by decide +kernel) ?_
  intro v81 h82
  refine q_callVi hE (M' := mX12_readPart) (as := [_, _, _]) dX12_readTurner_142 lk12_249 inX12_readPart seX12_readPart myX12_readPart (by decide) ⟨by decide, by decide⟩ rfl (kR15 hS69.1 ta0) (Nat.le_of_ble_eq_true rfl) rfl rfl (by decide) (by decide) (k_X12_readPart hS69.1 ta0 (by decide)) ?_
  rintro v87 cn' K' N' I83 R84 L85 ⟨rfl, rfl, rfl, rfl, g86, p88, w89, -⟩
  have hS90 := hS69.tr g86 (by decide +kernel) (by decide +kernel)
  have b91 : 1 ≤ v87.toInt ∧ v87.toInt ≤ 20 := by omega
  clear p88
  have ov92 := w89.over (by rw [c73]; omega)
  obtain ⟨v93, c94⟩ : ∃ v, I83 a0 9 = v := ⟨_, rfl⟩
  have b95 := iv15_9 hS90.1 ta0 c94
  obtain ⟨v96, c97⟩ : ∃ v, I83 a0 13 = v := ⟨_, rfl⟩
  obtain ⟨v98, c99⟩ : ∃ v, I83 a0 14 = v := ⟨_, rfl⟩
  (try rw [c94] at ov92)
  (try rw [c97] at ov92)
  (try rw [c99] at ov92)
  (try rw [c73] at ov92)
  (try rw [c76] at ov92)
  (try rw [c78] at ov92)
  refine tr_istore dX12_readTurner_145 (by decide) (by decide) ?_
  refine tr_aload_n dX12_readTurner_147 hl0 ?_
  refine tr_ldcS dX12_readTurner_148 ld12_253 ?_
  refine q_callVv hE (M' := mX12_needs) (as := [_]) dX12_readTurner_150 lk12_157 inX12_needs seX12_needs myX12_needs (by decide) ⟨by decide, by decide⟩ rfl (kR15 hS90.1 ta0) (Nat.le_of_ble_eq_true rfl) rfl rfl (by decide) (by decide) (k_X12_needs hS90.1 ta0 (by decide)) ?_
  rintro cn' K' N' I100 R101 L102 ⟨rfl, rfl, rfl, rfl, g103, w105, -⟩
  have hS106 := hS90.tr g103 (by decide +kernel) (by decide +kernel)
  have ov107 := w105.over (by rw [c94]; omega)
  obtain ⟨v108, c109⟩ : ∃ v, I100 a0 9 = v := ⟨_, rfl⟩
  have b110 := iv15_9 hS106.1 ta0 c109
  obtain ⟨v111, c112⟩ : ∃ v, I100 a0 13 = v := ⟨_, rfl⟩
  obtain ⟨v113, c114⟩ : ∃ v, I100 a0 14 = v := ⟨_, rfl⟩
  (try rw [c109] at ov107)
  (try rw [c112] at ov107)
  (try rw [c114] at ov107)
  (try rw [c94] at ov107)
  (try rw [c97] at ov107)
  (try rw [c99] at ov107)
  refine q_iconst dX12_readTurner_153 (by decide) ?_
  intro v115 h116
  refine tr_istore dX12_readTurner_154 (by decide) (by decide) ?_
  refine q_iconst dX12_readTurner_156 (by decide) ?_
  intro v117 h118
  refine tr_istore dX12_readTurner_157 (by decide) (by decide) ?_
  refine tr_iload dX12_readTurner_159 rfl ?_
  refine q_if_eq 227 dX12_readTurner_161 (by decide) (fun h119 => ?_) (fun h119 => ?_)
  · skip
    exfalso; omega
  · skip
    refine tr_aload_n dX12_readTurner_164 hl0 ?_
    refine q_getI dX12_readTurner_165 fl12_99 (kR15 hS106.1 ta0) c109 ?_
    refine q_iconst dX12_readTurner_168 (by decide) ?_
    intro v120 h121
    refine q_icmp_eq 227 dX12_readTurner_169 (by decide) (fun h122 => ?_) (fun h122 => ?_)
    · skip
      refine tr_aload_n dX12_readTurner_227 hl0 ?_
      refine q_getI dX12_readTurner_228 fl12_99 (kR15 hS106.1 ta0) c109 ?_
      refine q_iconst dX12_readTurner_231 (by decide) ?_
      intro v123 h124
      refine q_icmp_ne 236 dX12_readTurner_232 (by decide) (fun h125 => ?_) (fun h125 => ?_)
      · skip
        exfalso; omega
      · skip
        exact tr_vret hZ dX12_readTurner_235 rfl (by decide) (by decide) (hq _ _ _ ⟨hS106, (by (try rw [c109]); first | done | omega), (by (try rw [c112]); (try rw [c8]); first | done | omega), (by (try rw [c114]); (try rw [c10]); first | done | omega), trivial⟩)
    · skip
      exfalso; omega
def wif_tuL : List Nat := [900, 903, 968, 969, 970, 971, 972, 973, 974, 4095, 4159, 4223, 4287, 4351, 4415, 4799, 4863]
def wrf_tuL : List Nat := []
def wlf_tuL : List Nat := [975, 4735]
set_option maxHeartbeats 4000000 in
theorem sf_tuL {X : cz_X} (hE : cz_env X) {T : Nat → Nat} {cn : Nat} {K N : Nat → Nat} {I0 : cz_I} {R0 : cz_R} {L0 : cz_L} {Q : cz_Q} (hZ : cz_Z X mX12_readTurner Q) (hW0 : Wf T cn K N I0 R0 0) (gB : cz_B) (gs : Int) (gQ : Nat → Int) {a0 : Nat} (ta0 : T a0 = 15) {y1 : Int64} {x2 : Int32} (hx2 : 0 ≤ x2.toInt ∧ x2.toInt ≤ 3) (hT : ∀ t, R0 a0 5 = some t → Tx I0 t gB) (hN : ∀ b, R0 a0 4 = some b → NmM I0 R0 L0 b gQ) (pre0 : (I0 a0 9).toInt = (tkM gB (tkN gB (tkN gB (tkN gB gs))))) (pre1 : (I0 a0 9).toInt ≤ 4) (pre2 : (I0 a0 10).toInt = (tkS gB (tkN gB (tkN gB (tkN gB gs))))) (pre3 : (I0 a0 11).toInt = (tkG gB (tkN gB (tkN gB (tkN gB gs))))) (pre4 : (AtW ((tkK gB (tkN gB (tkN gB (tkN gB gs))))) ((L0 a0 15).toInt) ((tkW gB (tkN gB (tkN gB (tkN gB gs))))))) (pre5 : (AtV ((tkK gB (tkN gB (tkN gB (tkN gB gs))))) ((I0 a0 12).toInt) ((tkV gB (tkN gB (tkN gB (tkN gB gs))))))) (pre6 : (AtN ((tkK gB (tkN gB (tkN gB (tkN gB gs))))) ((I0 a0 8).toInt) ((tkN gB (tkN gB (tkN gB (tkN gB gs))))))) (pre7 : (I0 a0 7).toInt = (gB.2)) (pre8 : ∀ b1, R0 a0 4 = some b1 → (I0 b1 0).toInt = (gQ 0)) (pre9 : ∀ b1, R0 a0 4 = some b1 → (I0 b1 1).toInt = (gQ 1)) (pre10 : ∀ b1, R0 a0 4 = some b1 → (I0 b1 2).toInt = (gQ 2)) (pre11 : ∀ b1, R0 a0 4 = some b1 → (I0 b1 3).toInt = (gQ 3)) (pre12 : ∀ b1, R0 a0 4 = some b1 → (I0 b1 4).toInt = (gQ 4)) (pre13 : ∀ b1, R0 a0 4 = some b1 → (I0 b1 5).toInt = (gQ 5)) (pre14 : ∀ b1, R0 a0 4 = some b1 → (I0 b1 6).toInt = (gQ 6)) (pre15 : ∀ b1, R0 a0 4 = some b1 → (I0 b1 9).toInt = (gQ 8)) (pre16 : (Q7M ((gQ 0)) ((gQ 7)))) (pre17 : (tkK gB gs) = 1) (pre18 : (srt gB gs) = 7) (pre19 : (gQ 4) ≤ 4) (pre20 : (gQ 0) ≠ 0) (pre21 : (isN gB (tkN gB gs)) = 1) (pre22 : (nmI gQ 100 (gQ 3) (tkW gB (tkN gB gs))) = -1) (pre23 : (nmI gQ 200 (gQ 4) (tkW gB (tkN gB gs))) = -1) (pre24 : y1.toInt = (tkW gB (tkN gB gs))) (pre25 : (tkd gB (tkN gB (tkN gB gs))) = x2.toInt) (nn4 : ∃ b, R0 a0 4 = some b) {ls : Nat → Option Value} (hl0 : ls 0 = some (.ref a0)) (hl1 : ls 1 = some (.long y1)) (hl3 : ls 3 = some (.int x2)) (hq : ∀ (I' : cz_I) (R' : cz_R) (L' : cz_L), St T cn K N 0 wif_tuL wrf_tuL I0 R0 I' R' ∧ ((((lnF gB gQ gs) = 0) ∧ (∀ b1, R' a0 4 = some b1 → (I' b1 0).toInt = (lnQ gB gQ gs 0)) ∧ (∀ b1, R' a0 4 = some b1 → (I' b1 1).toInt = (lnQ gB gQ gs 1)) ∧ (∀ b1, R' a0 4 = some b1 → (I' b1 2).toInt = (lnQ gB gQ gs 2)) ∧ (∀ b1, R' a0 4 = some b1 → (I' b1 3).toInt = (lnQ gB gQ gs 3)) ∧ (∀ b1, R' a0 4 = some b1 → (I' b1 4).toInt = (lnQ gB gQ gs 4)) ∧ (∀ b1, R' a0 4 = some b1 → (I' b1 5).toInt = (lnQ gB gQ gs 5)) ∧ (∀ b1, R' a0 4 = some b1 → (I' b1 6).toInt = (lnQ gB gQ gs 6)) ∧ (∀ b1, R' a0 4 = some b1 → (I' b1 9).toInt = (lnQ gB gQ gs 8)) ∧ ((I' a0 13).toInt = (I0 a0 13).toInt) ∧ ((I' a0 9).toInt = (tkM gB (lnS gB gQ gs))) ∧ ((I' a0 9).toInt ≤ 4) ∧ ((I' a0 10).toInt = (tkS gB (lnS gB gQ gs))) ∧ ((I' a0 11).toInt = (tkG gB (lnS gB gQ gs))) ∧ ((AtW ((tkK gB (lnS gB gQ gs))) ((L' a0 15).toInt) ((tkW gB (lnS gB gQ gs))))) ∧ ((AtV ((tkK gB (lnS gB gQ gs))) ((I' a0 12).toInt) ((tkV gB (lnS gB gQ gs))))) ∧ ((AtN ((tkK gB (lnS gB gQ gs))) ((I' a0 8).toInt) ((tkN gB (lnS gB gQ gs))))) ∧ LgS T wlf_tuL L0 L' ∧ (∀ b, R0 a0 4 = some b → NmM I' R' L' b (lnQ gB gQ gs)) ∧ True) ∨ (((lnF gB gQ gs) ≠ 0) ∧ ((I' a0 9).toInt = 5) ∧ ((I' a0 13).toInt = (lnF gB gQ gs)) ∧ ((I' a0 14).toInt = (lnP gB gQ gs)) ∧ True)) ∧ True → Q none cn K N I' R' L') : Tr X mX12_readTurner 84 ls [] cn K N I0 R0 L0 0 0 := by
  have hS0 : St T cn K N 0 wif_tuL wrf_tuL I0 R0 I0 R0 := St.rf0 hW0
  have hL0 : LgS T wlf_tuL L0 L0 := LgS.rf0
  obtain ⟨a1, d2⟩ := nn4
  have ta1 : T a1 = 14 := hW0.rsN ta0 rfl d2
  obtain ⟨v3, c4⟩ : ∃ v, I0 a0 9 = v := ⟨_, rfl⟩
  have b5 := iv15_9 hS0.1 ta0 c4
  have p6 := pre0
  rw [c4] at p6
  have p7 := pre1
  rw [c4] at p7
  obtain ⟨v8, c9⟩ : ∃ v, I0 a0 10 = v := ⟨_, rfl⟩
  have b10 := iv15_10 hS0.1 ta0 c9
  have p11 := pre2
  rw [c9] at p11
  obtain ⟨v12, c13⟩ : ∃ v, I0 a0 11 = v := ⟨_, rfl⟩
  have p14 := pre3
  rw [c13] at p14
  obtain ⟨y15, c16⟩ : ∃ v, L0 a0 15 = v := ⟨_, rfl⟩
  have p17 := pre4
  rw [c16] at p17
  obtain ⟨v18, c19⟩ : ∃ v, I0 a0 12 = v := ⟨_, rfl⟩
  have p20 := pre5
  rw [c19] at p20
  obtain ⟨v21, c22⟩ : ∃ v, I0 a0 8 = v := ⟨_, rfl⟩
  have b23 := iv15_8 hS0.1 ta0 c22
  have p24 := pre6
  rw [c22] at p24
  obtain ⟨v25, c26⟩ : ∃ v, I0 a0 7 = v := ⟨_, rfl⟩
  have b27 := iv15_7 hW0 ta0 c26
  have p28 := pre7
  rw [c26] at p28
  obtain ⟨v29, c30⟩ : ∃ v, I0 a1 0 = v := ⟨_, rfl⟩
  have b31 := iv14_0 hW0 ta1 c30
  have p32 := pre8 _ d2
  rw [c30] at p32
  obtain ⟨v33, c34⟩ : ∃ v, I0 a1 1 = v := ⟨_, rfl⟩
  have b35 := iv14_1 hW0 ta1 c34
  have p36 := pre9 _ d2
  rw [c34] at p36
  obtain ⟨v37, c38⟩ : ∃ v, I0 a1 2 = v := ⟨_, rfl⟩
  have b39 := iv14_2 hW0 ta1 c38
  have p40 := pre10 _ d2
  rw [c38] at p40
  obtain ⟨v41, c42⟩ : ∃ v, I0 a1 3 = v := ⟨_, rfl⟩
  have b43 := iv14_3 hW0 ta1 c42
  have p44 := pre11 _ d2
  rw [c42] at p44
  obtain ⟨v45, c46⟩ : ∃ v, I0 a1 4 = v := ⟨_, rfl⟩
  have b47 := iv14_4 hS0.1 ta1 c46
  have p48 := pre12 _ d2
  rw [c46] at p48
  obtain ⟨v49, c50⟩ : ∃ v, I0 a1 5 = v := ⟨_, rfl⟩
  have b51 := iv14_5 hW0 ta1 c50
  have p52 := pre13 _ d2
  rw [c50] at p52
  obtain ⟨v53, c54⟩ : ∃ v, I0 a1 6 = v := ⟨_, rfl⟩
  have b55 := iv14_6 hW0 ta1 c54
  have p56 := pre14 _ d2
  rw [c54] at p56
  obtain ⟨v57, c58⟩ : ∃ v, I0 a1 9 = v := ⟨_, rfl⟩
  have b59 := iv14_9 hW0 ta1 c58
  have p60 := pre15 _ d2
  rw [c58] at p60
  have p61 := pre16
  have p62 := pre17
  have p63 := pre18
  have p64 := pre19
  have p65 := pre20
  have p66 := pre21
  have p67 := pre22
  have p68 := pre23
  have p69 := pre24
  have p70 := pre25
  obtain ⟨v71, c72⟩ : ∃ v, I0 a0 13 = v := ⟨_, rfl⟩
  have hM0 := hN _ d2
  have hF := lnF_ch gB gQ gs
  have hP := lnP_ch gB gQ gs
  have p73 := p61
  unfold Q7M at p73
  replace hF := hF.neg (by omega)
  replace hP := hP.neg (by omega)
  replace hF := hF.neg (by omega)
  replace hP := hP.neg (by omega)
  replace hF := hF.neg (by omega)
  replace hP := hP.neg (by omega)
  replace hF := hF.neg (by omega)
  replace hP := hP.neg (by omega)
  clear p73
  obtain ⟨w74, w75, w76, w77, w78, w79, w80, w81, w82, w83, w84, w85⟩ := lnl_7 (B := gB) (Q := gQ) (s := gs) (by omega)
  replace hF := hF.to w74 (tuF_cx gB gQ (tkN gB gs))
  replace hP := hP.to w75 (tuP_cx gB gQ (tkN gB gs))
  have kdx : tkd gB (tkN gB (tkN gB gs)) = x2.toInt := by omega
  replace hF := hF.neg (by omega)
  replace hP := hP.neg (by omega)
  replace hF := hF.neg (by omega)
  replace hP := hP.neg (by omega)
  replace hF := hF.neg (by omega)
  replace hP := hP.neg (by omega)
  refine tr_aload_n dX12_readTurner_84 hl0 ?_
  refine tr_ldcwS dX12_readTurner_85 ld12_324 ?_
  refine q_iconst dX12_readTurner_88 (by decide) ?_
  intro v86 h87
  refine tr_aload_n dX12_readTurner_89 hl0 ?_
  refine tr_getR dX12_readTurner_90 fl12_188 (kR15 hS0.1 ta0) d2 ?_
  refine q_getI dX12_readTurner_93 fl12_192 (kR14 hS0.1 ta1) c30 ?_
  refine q_iconst dX12_readTurner_96 (by decide) ?_
  intro v88 h89
  refine q_isubE dX12_readTurner_97 (by intros; omega) ?_
  intro v90 h91
  refine q_callVi hE (M' := mX12_readPart) (as := [_, _, _]) dX12_readTurner_98 lk12_249 inX12_readPart seX12_readPart myX12_readPart (by decide) ⟨by decide, by decide⟩ rfl (kR15 hS0.1 ta0) (Nat.le_of_ble_eq_true rfl) rfl rfl (by decide) (by decide) (fk_X12_readPart hS0.1 (gB) ((tkN gB (tkN gB (tkN gB gs)))) ta0 (by decide) (TxA.kp hT hS0 ta0 rfl rfl rfl (by decide +kernel) (by decide +kernel)) (by (try rw [c4]); first | done | omega) (by (try rw [c4]); first | done | omega) (by (try rw [c9]); first | done | omega) (by (try rw [c13]); first | done | omega) (by (try rw [c16]); first | done | assumption) (by (try rw [c19]); first | done | assumption) (by (try rw [c22]); first | done | assumption) (by (try rw [c26]); first | done | omega)) ?_
  rintro v97 cn' K' N' I92 R93 L94 ⟨rfl, rfl, rfl, rfl, g95, dj98, -⟩
  (try rw [pk_13] at dj98)
  have hM99 : NmM I92 R0 L0 a1 gQ := NmM.kpS hM0 g95 hS0.1 ta1 (by decide +kernel) (by decide +kernel)
  have hS100 := hS0.tr g95 (by decide +kernel) (by decide +kernel)
  have c101 : I92 a1 4 = v45 := (g95.cell ta1 (by decide +kernel)).trans c46
  rcases dj98 with ⟨p102, p103, p104, p105, p106, p107, p108, p109, p110, p111, p112, p113, p114, p115, gl116, -⟩ | ⟨p117, p118, p119, p120, p121, -⟩ | ⟨p122, p123, p124, p125, p126, p127, p128, -⟩ | ⟨p129, p130, p131, p132, p133, p134, p135, p136, -⟩
  · skip
    have hL137 := hL0.tr gl116 (by decide +kernel)
    have hM138 : NmM I92 R0 L94 a1 gQ := NmM.kpL hM99 gl116 hS100.1 ta1 (by decide +kernel)
    obtain ⟨v139, c140⟩ : ∃ v, I92 a0 13 = v := ⟨_, rfl⟩
    rw [c140] at p108
    rw [c72] at p108
    obtain ⟨v141, c142⟩ : ∃ v, I92 a0 9 = v := ⟨_, rfl⟩
    have b143 := iv15_9 hS100.1 ta0 c142
    rw [c142] at p109
    rw [c142] at p110
    obtain ⟨v144, c145⟩ : ∃ v, I92 a0 10 = v := ⟨_, rfl⟩
    have b146 := iv15_10 hS100.1 ta0 c145
    rw [c145] at p111
    obtain ⟨v147, c148⟩ : ∃ v, I92 a0 11 = v := ⟨_, rfl⟩
    rw [c148] at p112
    obtain ⟨y149, c150⟩ : ∃ v, L94 a0 15 = v := ⟨_, rfl⟩
    rw [c150] at p113
    obtain ⟨v151, c152⟩ : ∃ v, I92 a0 12 = v := ⟨_, rfl⟩
    rw [c152] at p114
    obtain ⟨v153, c154⟩ : ∃ v, I92 a0 8 = v := ⟨_, rfl⟩
    have b155 := iv15_8 hS100.1 ta0 c154
    rw [c154] at p115
    replace hF := hF.neg (by omega)
    replace hP := hP.neg (by omega)
    replace hF := hF.neg (by omega)
    replace hP := hP.neg (by omega)
    replace hF := hF.neg (by omega)
    replace hP := hP.neg (by omega)
    refine tr_istore dX12_readTurner_101 (by decide) (by decide) ?_
    refine tr_aload_n dX12_readTurner_103 hl0 ?_
    refine tr_ldcwS dX12_readTurner_104 ld12_272 ?_
    refine tr_iload dX12_readTurner_107 rfl ?_
    refine q_iconst dX12_readTurner_109 (by decide) ?_
    intro v156 h157
    refine q_iaddE dX12_readTurner_110 (by intros; omega) ?_
    intro v158 h159
    refine tr_aload_n dX12_readTurner_111 hl0 ?_
    refine tr_getR dX12_readTurner_112 fl12_188 (kR15 hS100.1 ta0) d2 ?_
    refine q_getI dX12_readTurner_115 fl12_192 (kR14 hS100.1 ta1) ((hS100.cell ta1 (by decide +kernel)).trans c30) ?_
    refine q_callVi hE (M' := mX12_readPart) (as := [_, _, _]) dX12_readTurner_118 lk12_249 inX12_readPart seX12_readPart myX12_readPart (by decide) ⟨by decide, by decide⟩ rfl (kR15 hS100.1 ta0) (Nat.le_of_ble_eq_true rfl) rfl rfl (by decide) (by decide) (fk_X12_readPart hS100.1 (gB) ((tkN gB (tkN gB (tkN gB (tkN gB (tkN gB gs)))))) ta0 (by decide) (TxA.kp hT hS100 ta0 rfl rfl rfl (by decide +kernel) (by decide +kernel)) (by (try rw [c142]); first | done | omega) (by (try rw [c142]); first | done | omega) (by (try rw [c145]); first | done | omega) (by (try rw [c148]); first | done | omega) (by (try rw [c150]); first | done | assumption) (by (try rw [c152]); first | done | assumption) (by (try rw [c154]); first | done | assumption) (by (try rw [((hS100.cell ta0 (by decide +kernel)).trans c26)]); first | done | omega)) ?_
    rintro v165 cn' K' N' I160 R161 L162 ⟨rfl, rfl, rfl, rfl, g163, dj166, -⟩
    (try rw [pk_25] at dj166)
    have hM167 : NmM I160 R0 L94 a1 gQ := NmM.kpS hM138 g163 hS100.1 ta1 (by decide +kernel) (by decide +kernel)
    have hS168 := hS100.tr g163 (by decide +kernel) (by decide +kernel)
    have c169 : I160 a1 4 = v45 := (g163.cell ta1 (by decide +kernel)).trans c101
    rcases dj166 with ⟨p170, p171, p172, p173, p174, p175, p176, p177, p178, p179, p180, p181, p182, p183, gl184, -⟩ | ⟨p185, p186, p187, p188, p189, -⟩ | ⟨p190, p191, p192, p193, p194, p195, p196, -⟩ | ⟨p197, p198, p199, p200, p201, p202, p203, p204, -⟩
    · skip
      have hL205 := hL137.tr gl184 (by decide +kernel)
      have hM206 : NmM I160 R0 L162 a1 gQ := NmM.kpL hM167 gl184 hS168.1 ta1 (by decide +kernel)
      obtain ⟨v207, c208⟩ : ∃ v, I160 a0 13 = v := ⟨_, rfl⟩
      rw [c208] at p176
      rw [c140] at p176
      obtain ⟨v209, c210⟩ : ∃ v, I160 a0 9 = v := ⟨_, rfl⟩
      have b211 := iv15_9 hS168.1 ta0 c210
      rw [c210] at p177
      rw [c210] at p178
      obtain ⟨v212, c213⟩ : ∃ v, I160 a0 10 = v := ⟨_, rfl⟩
      have b214 := iv15_10 hS168.1 ta0 c213
      rw [c213] at p179
      obtain ⟨v215, c216⟩ : ∃ v, I160 a0 11 = v := ⟨_, rfl⟩
      rw [c216] at p180
      obtain ⟨y217, c218⟩ : ∃ v, L162 a0 15 = v := ⟨_, rfl⟩
      rw [c218] at p181
      obtain ⟨v219, c220⟩ : ∃ v, I160 a0 12 = v := ⟨_, rfl⟩
      rw [c220] at p182
      obtain ⟨v221, c222⟩ : ∃ v, I160 a0 8 = v := ⟨_, rfl⟩
      have b223 := iv15_8 hS168.1 ta0 c222
      rw [c222] at p183
      replace hF := hF.neg (by omega)
      replace hP := hP.neg (by omega)
      replace hF := hF.neg (by omega)
      replace hP := hP.neg (by omega)
      replace hF := hF.neg (by omega)
      replace hP := hP.neg (by omega)
      refine tr_istore dX12_readTurner_121 (by decide) (by decide) ?_
      refine tr_aload_n dX12_readTurner_123 hl0 ?_
      refine tr_ldcwS dX12_readTurner_124 ld12_325 ?_
      refine q_iconst dX12_readTurner_127 (by decide) ?_
      intro v224 h225
      refine q_bipush dX12_readTurner_128 (by decide +kernel) ?_
      intro v226 h227
      refine q_callVi hE (M' := mX12_readPart) (as := [_, _, _]) dX12_readTurner_130 lk12_249 inX12_readPart seX12_readPart myX12_readPart (by decide) ⟨by decide, by decide⟩ rfl (kR15 hS168.1 ta0) (Nat.le_of_ble_eq_true rfl) rfl rfl (by decide) (by decide) (fk_X12_readPart hS168.1 (gB) ((tkN gB (tkN gB (tkN gB (tkN gB (tkN gB (tkN gB (tkN gB gs)))))))) ta0 (by decide) (TxA.kp hT hS168 ta0 rfl rfl rfl (by decide +kernel) (by decide +kernel)) (by (try rw [c210]); first | done | omega) (by (try rw [c210]); first | done | omega) (by (try rw [c213]); first | done | omega) (by (try rw [c216]); first | done | omega) (by (try rw [c218]); first | done | assumption) (by (try rw [c220]); first | done | assumption) (by (try rw [c222]); first | done | assumption) (by (try rw [((hS168.cell ta0 (by decide +kernel)).trans c26)]); first | done | omega)) ?_
      rintro v233 cn' K' N' I228 R229 L230 ⟨rfl, rfl, rfl, rfl, g231, dj234, -⟩
      (try rw [pk_14] at dj234)
      have hM235 : NmM I228 R0 L162 a1 gQ := NmM.kpS hM206 g231 hS168.1 ta1 (by decide +kernel) (by decide +kernel)
      have hS236 := hS168.tr g231 (by decide +kernel) (by decide +kernel)
      have c237 : I228 a1 4 = v45 := (g231.cell ta1 (by decide +kernel)).trans c169
      rcases dj234 with ⟨p238, p239, p240, p241, p242, p243, p244, p245, p246, p247, p248, p249, p250, p251, gl252, -⟩ | ⟨p253, p254, p255, p256, p257, -⟩ | ⟨p258, p259, p260, p261, p262, p263, p264, -⟩ | ⟨p265, p266, p267, p268, p269, p270, p271, p272, -⟩
      · skip
        have hL273 := hL205.tr gl252 (by decide +kernel)
        have hM274 : NmM I228 R0 L230 a1 gQ := NmM.kpL hM235 gl252 hS236.1 ta1 (by decide +kernel)
        obtain ⟨v275, c276⟩ : ∃ v, I228 a0 13 = v := ⟨_, rfl⟩
        rw [c276] at p244
        rw [c208] at p244
        obtain ⟨v277, c278⟩ : ∃ v, I228 a0 9 = v := ⟨_, rfl⟩
        have b279 := iv15_9 hS236.1 ta0 c278
        rw [c278] at p245
        rw [c278] at p246
        obtain ⟨v280, c281⟩ : ∃ v, I228 a0 10 = v := ⟨_, rfl⟩
        have b282 := iv15_10 hS236.1 ta0 c281
        rw [c281] at p247
        obtain ⟨v283, c284⟩ : ∃ v, I228 a0 11 = v := ⟨_, rfl⟩
        rw [c284] at p248
        obtain ⟨y285, c286⟩ : ∃ v, L230 a0 15 = v := ⟨_, rfl⟩
        rw [c286] at p249
        obtain ⟨v287, c288⟩ : ∃ v, I228 a0 12 = v := ⟨_, rfl⟩
        rw [c288] at p250
        obtain ⟨v289, c290⟩ : ∃ v, I228 a0 8 = v := ⟨_, rfl⟩
        have b291 := iv15_8 hS236.1 ta0 c290
        rw [c290] at p251
        replace hF := hF.neg (by omega)
        replace hP := hP.neg (by omega)
        replace hF := hF.neg (by omega)
        replace hP := hP.neg (by omega)
        replace hF := hF.neg (by omega)
        replace hP := hP.neg (by omega)
        refine tr_istore dX12_readTurner_133 (by decide) (by decide) ?_
        refine tr_aload_n dX12_readTurner_135 hl0 ?_
        refine tr_ldcwS dX12_readTurner_136 ld12_327 ?_
        refine q_iconst dX12_readTurner_139 (by decide) ?_
        intro v292 h293
        refine q_bipush dX12_readTurner_140 (by decide +kernel) ?_
        intro v294 h295
        refine q_callVi hE (M' := mX12_readPart) (as := [_, _, _]) dX12_readTurner_142 lk12_249 inX12_readPart seX12_readPart myX12_readPart (by decide) ⟨by decide, by decide⟩ rfl (kR15 hS236.1 ta0) (Nat.le_of_ble_eq_true rfl) rfl rfl (by decide) (by decide) (fk_X12_readPart hS236.1 (gB) ((tkN gB (tkN gB (tkN gB (tkN gB (tkN gB (tkN gB (tkN gB (tkN gB (tkN gB gs)))))))))) ta0 (by decide) (TxA.kp hT hS236 ta0 rfl rfl rfl (by decide +kernel) (by decide +kernel)) (by (try rw [c278]); first | done | omega) (by (try rw [c278]); first | done | omega) (by (try rw [c281]); first | done | omega) (by (try rw [c284]); first | done | omega) (by (try rw [c286]); first | done | assumption) (by (try rw [c288]); first | done | assumption) (by (try rw [c290]); first | done | assumption) (by (try rw [((hS236.cell ta0 (by decide +kernel)).trans c26)]); first | done | omega)) ?_
        rintro v301 cn' K' N' I296 R297 L298 ⟨rfl, rfl, rfl, rfl, g299, dj302, -⟩
        (try rw [pk_24] at dj302)
        have hM303 : NmM I296 R0 L230 a1 gQ := NmM.kpS hM274 g299 hS236.1 ta1 (by decide +kernel) (by decide +kernel)
        have hS304 := hS236.tr g299 (by decide +kernel) (by decide +kernel)
        have c305 : I296 a1 4 = v45 := (g299.cell ta1 (by decide +kernel)).trans c237
        rcases dj302 with ⟨p306, p307, p308, p309, p310, p311, p312, p313, p314, p315, p316, p317, p318, p319, gl320, -⟩ | ⟨p321, p322, p323, p324, p325, -⟩ | ⟨p326, p327, p328, p329, p330, p331, p332, -⟩ | ⟨p333, p334, p335, p336, p337, p338, p339, p340, -⟩
        · skip
          have hL341 := hL273.tr gl320 (by decide +kernel)
          have hM342 : NmM I296 R0 L298 a1 gQ := NmM.kpL hM303 gl320 hS304.1 ta1 (by decide +kernel)
          obtain ⟨v343, c344⟩ : ∃ v, I296 a0 13 = v := ⟨_, rfl⟩
          rw [c344] at p312
          rw [c276] at p312
          obtain ⟨v345, c346⟩ : ∃ v, I296 a0 9 = v := ⟨_, rfl⟩
          have b347 := iv15_9 hS304.1 ta0 c346
          rw [c346] at p313
          rw [c346] at p314
          obtain ⟨v348, c349⟩ : ∃ v, I296 a0 10 = v := ⟨_, rfl⟩
          have b350 := iv15_10 hS304.1 ta0 c349
          rw [c349] at p315
          obtain ⟨v351, c352⟩ : ∃ v, I296 a0 11 = v := ⟨_, rfl⟩
          rw [c352] at p316
          obtain ⟨y353, c354⟩ : ∃ v, L298 a0 15 = v := ⟨_, rfl⟩
          rw [c354] at p317
          obtain ⟨v355, c356⟩ : ∃ v, I296 a0 12 = v := ⟨_, rfl⟩
          rw [c356] at p318
          obtain ⟨v357, c358⟩ : ∃ v, I296 a0 8 = v := ⟨_, rfl⟩
          have b359 := iv15_8 hS304.1 ta0 c358
          rw [c358] at p319
          replace hF := hF.neg (by omega)
          replace hP := hP.neg (by omega)
          replace hF := hF.neg (by omega)
          replace hP := hP.neg (by omega)
          replace hF := hF.neg (by omega)
          replace hP := hP.neg (by omega)
          refine tr_istore dX12_readTurner_145 (by decide) (by decide) ?_
          refine tr_aload_n dX12_readTurner_147 hl0 ?_
          refine tr_ldcS dX12_readTurner_148 ld12_253 ?_
          refine q_callVv hE (M' := mX12_needs) (as := [_]) dX12_readTurner_150 lk12_157 inX12_needs seX12_needs myX12_needs (by decide) ⟨by decide, by decide⟩ rfl (kR15 hS304.1 ta0) (Nat.le_of_ble_eq_true rfl) rfl rfl (by decide) (by decide) (fk_X12_needs hS304.1 (gB) ((tkN gB (tkN gB (tkN gB (tkN gB (tkN gB (tkN gB (tkN gB (tkN gB (tkN gB (tkN gB (tkN gB gs)))))))))))) ta0 (by decide) (TxA.kp hT hS304 ta0 rfl rfl rfl (by decide +kernel) (by decide +kernel)) (by (try rw [c346]); first | done | omega) (by (try rw [c346]); first | done | omega) (by (try rw [c349]); first | done | omega) (by (try rw [c352]); first | done | omega) (by (try rw [c354]); first | done | assumption) (by (try rw [c356]); first | done | assumption) (by (try rw [c358]); first | done | assumption) (by (try rw [((hS304.cell ta0 (by decide +kernel)).trans c26)]); first | done | omega)) ?_
          rintro cn' K' N' I360 R361 L362 ⟨rfl, rfl, rfl, rfl, g363, dj366, -⟩
          (try rw [pk_16] at dj366)
          have hM367 : NmM I360 R0 L298 a1 gQ := NmM.kpS hM342 g363 hS304.1 ta1 (by decide +kernel) (by decide +kernel)
          have hS368 := hS304.tr g363 (by decide +kernel) (by decide +kernel)
          have c369 : I360 a1 4 = v45 := (g363.cell ta1 (by decide +kernel)).trans c305
          rcases dj366 with ⟨p370, p371, p372, p373, p374, p375, p376, p377, p378, p379, gl380, -⟩ | ⟨p381, p382, p383, p384, -⟩
          · skip
            have hL385 := hL341.tr gl380 (by decide +kernel)
            have hM386 : NmM I360 R0 L362 a1 gQ := NmM.kpL hM367 gl380 hS368.1 ta1 (by decide +kernel)
            obtain ⟨v387, c388⟩ : ∃ v, I360 a0 13 = v := ⟨_, rfl⟩
            rw [c388] at p372
            rw [c344] at p372
            obtain ⟨v389, c390⟩ : ∃ v, I360 a0 9 = v := ⟨_, rfl⟩
            have b391 := iv15_9 hS368.1 ta0 c390
            rw [c390] at p373
            rw [c390] at p374
            obtain ⟨v392, c393⟩ : ∃ v, I360 a0 10 = v := ⟨_, rfl⟩
            have b394 := iv15_10 hS368.1 ta0 c393
            rw [c393] at p375
            obtain ⟨v395, c396⟩ : ∃ v, I360 a0 11 = v := ⟨_, rfl⟩
            rw [c396] at p376
            obtain ⟨y397, c398⟩ : ∃ v, L362 a0 15 = v := ⟨_, rfl⟩
            rw [c398] at p377
            obtain ⟨v399, c400⟩ : ∃ v, I360 a0 12 = v := ⟨_, rfl⟩
            rw [c400] at p378
            obtain ⟨v401, c402⟩ : ∃ v, I360 a0 8 = v := ⟨_, rfl⟩
            have b403 := iv15_8 hS368.1 ta0 c402
            rw [c402] at p379
            replace hF := hF.neg (by omega)
            replace hP := hP.neg (by omega)
            refine q_iconst dX12_readTurner_153 (by decide) ?_
            intro v404 h405
            refine tr_istore dX12_readTurner_154 (by decide) (by decide) ?_
            refine q_iconst dX12_readTurner_156 (by decide) ?_
            intro v406 h407
            refine tr_istore dX12_readTurner_157 (by decide) (by decide) ?_
            have lp460 : ∀ (fu : Nat) (ls : Nat → Option Value) (v408 : Int32) (v409 : Int32) (I419 : cz_I) (L420 : cz_L) (gs421 : Int) (gr422 : Nat) (gh423 : Int) (v427 : Int32) (v429 : Int32) (v431 : Int32) (v433 : Int32) (v435 : Int32) (y437 : Int64) (v439 : Int32) (v441 : Int32), ls 0 = some (.ref a0) → ls 1 = some (.long y1) → ls 3 = some (.int x2) → ls 4 = some (.int v97) → ls 5 = some (.int v165) → ls 6 = some (.int v233) → ls 7 = some (.int v301) → ls 8 = some (.int v408) → ls 9 = some (.int v409) → St T cn K N 0 wif_tuL wrf_tuL I0 R0 I419 R0 → LgS T wlf_tuL L0 L420 → NmM I419 R0 L420 a1 gQ → I419 a0 13 = v427 → I419 a1 4 = v429 → I419 a0 9 = v431 → I419 a0 10 = v433 → I419 a0 11 = v435 → L420 a0 15 = y437 → I419 a0 12 = v439 → I419 a0 8 = v441 → (huF gB gQ gr422 gh423 gs421) = (huF gB gQ 901 0 (tkN gB (tkN gB (tkN gB (tkN gB (tkN gB (tkN gB (tkN gB (tkN gB (tkN gB (tkN gB (tkN gB (tkN gB gs))))))))))))) → (huP gB gQ gr422 gh423 gs421) = (huP gB gQ 901 0 (tkN gB (tkN gB (tkN gB (tkN gB (tkN gB (tkN gB (tkN gB (tkN gB (tkN gB (tkN gB (tkN gB (tkN gB gs))))))))))))) → (huS gB gQ gr422 gh423 gs421) = (huS gB gQ 901 0 (tkN gB (tkN gB (tkN gB (tkN gB (tkN gB (tkN gB (tkN gB (tkN gB (tkN gB (tkN gB (tkN gB (tkN gB gs))))))))))))) → v429.toInt = (gQ 4) → v409.toInt = 1 → v408.toInt = (gh423) → (gh423) ≥ 0 → (gh423) ≤ 15 → ((gr422 : Int)) + v433.toInt ≥ 901 → v427.toInt = v71.toInt → v431.toInt = (tkM gB gs421) → v431.toInt ≤ 4 → v433.toInt = (tkS gB gs421) → v435.toInt = (tkG gB gs421) → (AtW ((tkK gB gs421)) (y437.toInt) ((tkW gB gs421))) → (AtV ((tkK gB gs421)) (v439.toInt) ((tkV gB gs421))) → (AtN ((tkK gB gs421)) (v441.toInt) ((tkN gB gs421))) → (-v433.toInt + 900).toNat < fu → Tr X mX12_readTurner 159 ls [] cn K N I419 R0 L420 0 0 := by
              intro fu
              induction fu with
              | zero => intros; rename_i hz; exact absurd hz (Nat.not_lt_zero _)
              | succ fu ih460 =>
                intro ls v408 v409 I419 L420 gs421 gr422 gh423 v427 v429 v431 v433 v435 y437 v439 v441 hl410 hl411 hl412 hl413 hl414 hl415 hl416 hl417 hl418 hS424 hL425 hM426 c428 c430 c432 c434 c436 c438 c440 c442 g443 g444 g445 g446 g447 g448 g449 g450 g451 g452 g453 g454 g455 g456 g457 g458 g459 hm460
                have b462 := iv14_4 hS424.1 ta1 c430
                have b463 := iv15_9 hS424.1 ta0 c432
                have b464 := iv15_10 hS424.1 ta0 c434
                have b465 := iv15_8 hS424.1 ta0 c442
                rcases Nat.eq_zero_or_pos gr422 with hz466 | hz466
                · skip
                  subst hz466
                  exfalso; omega
                · skip
                  obtain ⟨gk467, rfl⟩ : ∃ k, gr422 = k + 1 := ⟨gr422 - 1, by omega⟩
                  refine tr_iload dX12_readTurner_159 hl418 ?_
                  refine q_if_eq 227 dX12_readTurner_161 (by decide) (fun h468 => ?_) (fun h468 => ?_)
                  · skip
                    exfalso; omega
                  · skip
                    refine tr_aload_n dX12_readTurner_164 hl410 ?_
                    refine q_getI dX12_readTurner_165 fl12_99 (kR15 hS424.1 ta0) c432 ?_
                    refine q_iconst dX12_readTurner_168 (by decide) ?_
                    intro v469 h470
                    refine q_icmp_eq 227 dX12_readTurner_169 (by decide) (fun h471 => ?_) (fun h471 => ?_)
                    · skip
                      exfalso; omega
                    · skip
                      refine tr_aload_n dX12_readTurner_172 hl410 ?_
                      refine q_iconst dX12_readTurner_173 (by decide) ?_
                      intro v472 h473
                      refine tr_aload_n dX12_readTurner_174 hl410 ?_
                      refine tr_getR dX12_readTurner_175 fl12_188 (kR15 hS424.1 ta0) d2 ?_
                      refine q_getI dX12_readTurner_178 fl12_263 (kR14 hS424.1 ta1) ((hS424.cell ta1 (by decide +kernel)).trans c34) ?_
                      refine q_iconst dX12_readTurner_181 (by decide) ?_
                      intro v474 h475
                      refine q_isubE dX12_readTurner_182 (by intros; omega) ?_
                      intro v476 h477
                      refine q_callVi hE (M' := mX12_bounded) (as := [_, _]) dX12_readTurner_183 lk12_153 inX12_bounded seX12_bounded myX12_bounded (by decide) ⟨by decide, by decide⟩ rfl (kR15 hS424.1 ta0) (Nat.le_of_ble_eq_true rfl) rfl rfl (by decide) (by decide) (fk_X12_bounded hS424.1 (gB) (gs421) ta0 (by (try rw [c432]); first | done | omega) (by (try rw [c432]); first | done | omega) (by (try rw [c434]); first | done | omega) (by (try rw [c436]); first | done | omega) (by (try rw [c438]); first | done | assumption) (by (try rw [c440]); first | done | assumption) (by (try rw [c442]); first | done | assumption)) ?_
                      rintro v483 cn' K' N' I478 R479 L480 ⟨rfl, rfl, rfl, rfl, rfl, g481, dj484, -⟩
                      have hM485 : NmM I478 R0 L420 a1 gQ := NmM.kpS hM426 g481 hS424.1 ta1 (by decide +kernel) (by decide +kernel)
                      have hS486 := hS424.tr g481 (by decide +kernel) (by decide +kernel)
                      have c487 : I478 a1 4 = v429 := (g481.cell ta1 (by decide +kernel)).trans c430
                      have c488 : I478 a0 10 = v433 := (g481.cell ta0 (by decide +kernel)).trans c434
                      have c489 : I478 a0 11 = v435 := (g481.cell ta0 (by decide +kernel)).trans c436
                      have c490 : I478 a0 12 = v439 := (g481.cell ta0 (by decide +kernel)).trans c440
                      have c491 : I478 a0 8 = v441 := (g481.cell ta0 (by decide +kernel)).trans c442
                      rcases dj484 with ⟨p492, p493, p494, p495, p496, p497, p498, p499, p500, p501, p502, p503, -⟩ | ⟨p504, p505, p506, p507, p508, -⟩ | ⟨p509, p510, p511, p512, p513, p514, -⟩
                      · skip
                        obtain ⟨v515, c516⟩ : ∃ v, I478 a0 13 = v := ⟨_, rfl⟩
                        rw [c516] at p496
                        rw [c428] at p496
                        obtain ⟨v517, c518⟩ : ∃ v, I478 a0 9 = v := ⟨_, rfl⟩
                        have b519 := iv15_9 hS486.1 ta0 c518
                        rw [c518] at p497
                        rw [c518] at p498
                        rw [c488] at p499
                        rw [c489] at p500
                        rw [c438] at p501
                        rw [c490] at p502
                        rw [c491] at p503
                        refine tr_istore dX12_readTurner_186 (by decide) (by decide) ?_
                        refine tr_iload dX12_readTurner_188 hl417 ?_
                        refine tr_iload dX12_readTurner_190 rfl ?_
                        refine q_callSi hE (M' := mX12_has) (as := [_, _]) dX12_readTurner_192 lk12_329 inX12_has myX12_has ⟨by decide, by decide⟩ rfl (Nat.le_of_ble_eq_true rfl) rfl rfl (by decide) (by decide) (f_X12_has   (by omega) (by omega)) ?_
                        rintro v525 cn' K' N' I520 R521 L522 ⟨rfl, rfl, rfl, rfl, rfl, rfl, h526, p527, -⟩
                        rw [show v408.toInt = gh423 by omega, show v483.toInt = tkV gB gs421 by omega] at p527
                        refine q_if_eq 203 dX12_readTurner_195 (by decide) (fun h528 => ?_) (fun h528 => ?_)
                        · skip
                          refine tr_aload_n dX12_readTurner_203 hl410 ?_
                          have p529 := p503 (by omega)
                          refine q_callVv hE (M' := mX12_goesOn) (as := []) dX12_readTurner_204 lk12_142 inX12_goesOn seX12_goesOn myX12_goesOn (by decide) ⟨by decide, by decide⟩ rfl (kR15 hS486.1 ta0) (Nat.le_of_ble_eq_true rfl) rfl rfl (by decide) (by decide) (fk_X12_goesOn hS486.1 (gB) ((tkN gB gs421)) ta0 (TxA.kp hT hS486 ta0 rfl rfl rfl (by decide +kernel) (by decide +kernel)) (by (try rw [c491]); first | done | omega) (by (try rw [((hS486.cell ta0 (by decide +kernel)).trans c26)]); first | done | omega) (by (try rw [c518]); first | done | omega)) ?_
                          rintro cn' K' N' I530 R531 L532 ⟨rfl, rfl, rfl, rfl, g533, gl534, p536, p537, p538, p539, p540, p541, p542, -⟩
                          have hM543 : NmM I530 R0 L420 a1 gQ := NmM.kpS hM485 g533 hS486.1 ta1 (by decide +kernel) (by decide +kernel)
                          have hS544 := hS486.tr g533 (by decide +kernel) (by decide +kernel)
                          have c545 : I530 a1 4 = v429 := (g533.cell ta1 (by decide +kernel)).trans c487
                          have c546 : I530 a0 13 = v515 := (g533.cell ta0 (by decide +kernel)).trans c516
                          have hL547 := hL425.tr gl534 (by decide +kernel)
                          have hM548 : NmM I530 R0 L532 a1 gQ := NmM.kpL hM543 gl534 hS544.1 ta1 (by decide +kernel)
                          obtain ⟨v549, c550⟩ : ∃ v, I530 a0 9 = v := ⟨_, rfl⟩
                          have b551 := iv15_9 hS544.1 ta0 c550
                          rw [c550] at p536
                          rw [c550] at p537
                          obtain ⟨v552, c553⟩ : ∃ v, I530 a0 10 = v := ⟨_, rfl⟩
                          have b554 := iv15_10 hS544.1 ta0 c553
                          rw [c553] at p538
                          obtain ⟨v555, c556⟩ : ∃ v, I530 a0 11 = v := ⟨_, rfl⟩
                          rw [c556] at p539
                          obtain ⟨y557, c558⟩ : ∃ v, L532 a0 15 = v := ⟨_, rfl⟩
                          rw [c558] at p540
                          obtain ⟨v559, c560⟩ : ∃ v, I530 a0 12 = v := ⟨_, rfl⟩
                          rw [c560] at p541
                          obtain ⟨v561, c562⟩ : ∃ v, I530 a0 8 = v := ⟨_, rfl⟩
                          have b563 := iv15_8 hS544.1 ta0 c562
                          rw [c562] at p542
                          refine tr_iload dX12_readTurner_207 hl417 ?_
                          refine q_iconst dX12_readTurner_209 (by decide) ?_
                          intro v564 h565
                          refine tr_iload dX12_readTurner_210 rfl ?_
                          refine tr_ishl dX12_readTurner_212 ?_
                          refine tr_ior dX12_readTurner_213 ?_
                          obtain ⟨v566, lx567⟩ : ∃ z, z = v408 ||| (v564 <<< (v483 &&& 31)) := ⟨_, rfl⟩
                          rw [← lx567]
                          have p568 : v566.toInt = gh423 + pw (tkV gB gs421) ∧ gh423 + pw (tkV gB gs421) ≤ 15 := by rw [lx567, show gh423 = v408.toInt by omega, show tkV gB gs421 = v483.toInt by omega]; exact hut_or (by omega) (by omega) (by omega) (by rw [show v408.toInt = gh423 by omega, show v483.toInt = tkV gB gs421 by omega]; omega)
                          have p5680 := pw_pos (tkV gB gs421)
                          refine tr_istore dX12_readTurner_214 (by decide) (by decide) ?_
                          refine tr_aload_n dX12_readTurner_216 hl410 ?_
                          refine q_bipush dX12_readTurner_217 (by decide +kernel) ?_
                          intro v569 h570
                          refine q_callVi hE (M' := mX12_eatsSign) (as := [_]) dX12_readTurner_219 lk12_221 inX12_eatsSign seX12_eatsSign myX12_eatsSign (by decide) ⟨by decide, by decide⟩ rfl (kR15 hS544.1 ta0) (Nat.le_of_ble_eq_true rfl) rfl rfl (by decide) (by decide) (fk_X12_eatsSign hS544.1 (gB) ((tkN gB gs421)) ta0 (TxA.kp hT hS544 ta0 rfl rfl rfl (by decide +kernel) (by decide +kernel)) (by (try rw [c550]); first | done | omega) (by (try rw [c550]); first | done | omega) (by (try rw [c553]); first | done | omega) (by (try rw [c556]); first | done | omega) (by (try rw [c558]); first | done | assumption) (by (try rw [c560]); first | done | assumption) (by (try rw [c562]); first | done | assumption) (by (try rw [((hS544.cell ta0 (by decide +kernel)).trans c26)]); first | done | omega) (by first | done | omega)) ?_
                          rintro v576 cn' K' N' I571 R572 L573 ⟨rfl, rfl, rfl, rfl, g574, gl575, h577, dj578, -⟩
                          have hM579 : NmM I571 R0 L532 a1 gQ := NmM.kpS hM548 g574 hS544.1 ta1 (by decide +kernel) (by decide +kernel)
                          have hS580 := hS544.tr g574 (by decide +kernel) (by decide +kernel)
                          have c581 : I571 a1 4 = v429 := (g574.cell ta1 (by decide +kernel)).trans c545
                          have c582 : I571 a0 13 = v515 := (g574.cell ta0 (by decide +kernel)).trans c546
                          have hL583 := hL547.tr gl575 (by decide +kernel)
                          have hM584 : NmM I571 R0 L573 a1 gQ := NmM.kpL hM579 gl575 hS580.1 ta1 (by decide +kernel)
                          rcases dj578 with ⟨p585, p586, p587, p588, p589, p590, p591, p592, p593, p594, -⟩ | ⟨p595, p596, p597, p598, p599, p600, p601, p602, p603, p604, -⟩
                          · skip
                            rw [c582] at p587
                            rw [c546] at p587
                            obtain ⟨v605, c606⟩ : ∃ v, I571 a0 9 = v := ⟨_, rfl⟩
                            have b607 := iv15_9 hS580.1 ta0 c606
                            rw [c606] at p588
                            rw [c606] at p589
                            obtain ⟨v608, c609⟩ : ∃ v, I571 a0 10 = v := ⟨_, rfl⟩
                            have b610 := iv15_10 hS580.1 ta0 c609
                            rw [c609] at p590
                            obtain ⟨v611, c612⟩ : ∃ v, I571 a0 11 = v := ⟨_, rfl⟩
                            rw [c612] at p591
                            obtain ⟨y613, c614⟩ : ∃ v, L573 a0 15 = v := ⟨_, rfl⟩
                            rw [c614] at p592
                            obtain ⟨v615, c616⟩ : ∃ v, I571 a0 12 = v := ⟨_, rfl⟩
                            rw [c616] at p593
                            obtain ⟨v617, c618⟩ : ∃ v, I571 a0 8 = v := ⟨_, rfl⟩
                            have b619 := iv15_8 hS580.1 ta0 c618
                            rw [c618] at p594
                            refine tr_istore dX12_readTurner_222 (by decide) (by decide) ?_
                            refine tr_goto 159 dX12_readTurner_224 (by decide) ?_
                            have q1 := tkS_nx gB gs421 (by omega)
                            have q2 := tkS_nx gB (tkN gB gs421) (by omega)
                            exact ih460 _ v566 v576 I571 L573 ((tkN gB (tkN gB gs421))) (gk467) ((gh423 + pw (tkV gB gs421))) v515 v429 v605 v608 v611 y613 v615 v617 hl410 hl411 hl412 hl413 hl414 hl415 hl416 rfl rfl hS580 hL583 hM584 c582 c581 c606 c609 c612 c614 c616 c618 (by rw [← g443]; simp only [huF, ↓reduceIte]; repeat' (first | split | omega)) (by rw [← g444]; simp only [huP, ↓reduceIte]; repeat' (first | split | omega)) (by rw [← g445]; simp only [huS, ↓reduceIte]; repeat' (first | split | omega)) (by omega) (by omega) (by omega) (by omega) (by omega) (by have q1 := tkS_nx gB gs421 (by omega); have q2 := tkS_nx gB (tkN gB gs421) (by omega); omega) (by omega) (by omega) (by omega) (by omega) (by omega) (by assumption) (by assumption) (by assumption) (by omega)
                          · skip
                            rw [c582] at p597
                            rw [c546] at p597
                            obtain ⟨v620, c621⟩ : ∃ v, I571 a0 9 = v := ⟨_, rfl⟩
                            have b622 := iv15_9 hS580.1 ta0 c621
                            rw [c621] at p598
                            rw [c621] at p599
                            obtain ⟨v623, c624⟩ : ∃ v, I571 a0 10 = v := ⟨_, rfl⟩
                            have b625 := iv15_10 hS580.1 ta0 c624
                            rw [c624] at p600
                            obtain ⟨v626, c627⟩ : ∃ v, I571 a0 11 = v := ⟨_, rfl⟩
                            rw [c627] at p601
                            obtain ⟨y628, c629⟩ : ∃ v, L573 a0 15 = v := ⟨_, rfl⟩
                            rw [c629] at p602
                            obtain ⟨v630, c631⟩ : ∃ v, I571 a0 12 = v := ⟨_, rfl⟩
                            rw [c631] at p603
                            obtain ⟨v632, c633⟩ : ∃ v, I571 a0 8 = v := ⟨_, rfl⟩
                            have b634 := iv15_8 hS580.1 ta0 c633
                            rw [c633] at p604
                            refine tr_istore dX12_readTurner_222 (by decide) (by decide) ?_
                            refine tr_goto 159 dX12_readTurner_224 (by decide) ?_
                            refine tr_iload dX12_readTurner_159 rfl ?_
                            refine q_if_eq 227 dX12_readTurner_161 (by decide) (fun h635 => ?_) (fun h635 => ?_)
                            · skip
                              refine tr_aload_n dX12_readTurner_227 hl410 ?_
                              refine q_getI dX12_readTurner_228 fl12_99 (kR15 hS580.1 ta0) c621 ?_
                              refine q_iconst dX12_readTurner_231 (by decide) ?_
                              intro v636 h637
                              refine q_icmp_ne 236 dX12_readTurner_232 (by decide) (fun h638 => ?_) (fun h638 => ?_)
                              · skip
                                refine tr_aload_n dX12_readTurner_236 hl410 ?_
                                refine tr_getR dX12_readTurner_237 fl12_188 (kR15 hS580.1 ta0) d2 ?_
                                refine q_getI dX12_readTurner_240 fl12_315 (kR14 hS580.1 ta1) c581 ?_
                                refine tr_istore dX12_readTurner_243 (by decide) (by decide) ?_
                                refine tr_aload_n dX12_readTurner_245 hl410 ?_
                                refine tr_lload_n dX12_readTurner_246 hl411 ?_
                                refine q_iconst dX12_readTurner_247 (by decide) ?_
                                intro v639 h640
                                refine tr_iload dX12_readTurner_248 rfl ?_
                                obtain ⟨v642, c643⟩ : ∃ v, I571 a1 7 = v := ⟨_, rfl⟩
                                have b644 := iv14_7 hS580.1 ta1 c643
                                have p641 := hS580.1.2.2.2.2.1 a0 ta0 _ d2
                                rw [c643, ((hS580.cell ta1 (by decide +kernel)).trans c42), c581] at p641
                                refine q_callVv hE (M' := mX12_names) (as := [_, _, _]) dX12_readTurner_250 lk12_293 inX12_names seX12_names myX12_names (by decide) ⟨by decide, by decide⟩ rfl (kR15 hS580.1 ta0) (Nat.le_of_ble_eq_true rfl) rfl rfl (by decide) (by decide) (fk_X12_names hS580.1  ta0 (fun q0 z0 => by obtain rfl := Option.some.inj ((d2).symm.trans z0); (try rw [c643]); first | done | omega) ⟨_, d2⟩) ?_
                                rintro cn' K' N' I645 R646 L647 ⟨rfl, rfl, rfl, rfl, g648, gl649, rp651, -⟩
                                have hS652 := hS580.tr g648 (by decide +kernel) (by decide +kernel)
                                have c653 : I645 a1 4 = v429 := (g648.cell ta1 (by decide +kernel)).trans c581
                                have c654 : I645 a0 13 = v515 := (g648.cell ta0 (by decide +kernel)).trans c582
                                have c655 : I645 a0 9 = v620 := (g648.cell ta0 (by decide +kernel)).trans c621
                                have c656 : I645 a0 10 = v623 := (g648.cell ta0 (by decide +kernel)).trans c624
                                have c657 : I645 a0 11 = v626 := (g648.cell ta0 (by decide +kernel)).trans c627
                                have c658 : I645 a0 12 = v630 := (g648.cell ta0 (by decide +kernel)).trans c631
                                have c659 : I645 a0 8 = v632 := (g648.cell ta0 (by decide +kernel)).trans c633
                                have hL660 := hL583.tr gl649 (by decide +kernel)
                                have c661 : L647 a0 15 = y628 := (gl649.cell ta0 (by decide +kernel)).trans c629
                                have hM662 := NmM.up7 (B := gB) (s := (tkN gB gs)) hM584 (rp651 _ d2) (by omega) (by omega) (by omega) (by rw [c643]; omega) (by omega) (by omega) (by omega)
                                refine tr_aload_n dX12_readTurner_253 hl410 ?_
                                refine tr_getR dX12_readTurner_254 fl12_188 (kR15 hS652.1 ta0) d2 ?_
                                obtain ⟨a663, d664, ta663⟩ := rf14_20 hW0 ta1
                                refine tr_getR dX12_readTurner_257 fl12_333 (kR14 hS652.1 ta1) d664 ?_
                                refine tr_iload dX12_readTurner_260 rfl ?_
                                refine tr_iload_n dX12_readTurner_262 hl412 ?_
                                refine q_iast dX12_readTurner_263 (kR63 hS652.1 ta663) (ti_in (nR63 hS652.1 ta663) (by omega) (by omega)) hS652 ta663 (iokF rfl) rfl (by rfl) ?_
                                intro I665 hS666 e668 f667
                                have c669 : I665 a1 4 = v429 := (f667 _ _ (fun q => by have z := ta1; rw [q.1, ta663] at z; exact absurd z (by decide))).trans c653
                                have c670 : I665 a0 13 = v515 := (f667 _ _ (fun q => by have z := ta0; rw [q.1, ta663] at z; exact absurd z (by decide))).trans c654
                                have c671 : I665 a0 9 = v620 := (f667 _ _ (fun q => by have z := ta0; rw [q.1, ta663] at z; exact absurd z (by decide))).trans c655
                                have c672 : I665 a0 10 = v623 := (f667 _ _ (fun q => by have z := ta0; rw [q.1, ta663] at z; exact absurd z (by decide))).trans c656
                                have c673 : I665 a0 11 = v626 := (f667 _ _ (fun q => by have z := ta0; rw [q.1, ta663] at z; exact absurd z (by decide))).trans c657
                                have c674 : I665 a0 12 = v630 := (f667 _ _ (fun q => by have z := ta0; rw [q.1, ta663] at z; exact absurd z (by decide))).trans c658
                                have c675 : I665 a0 8 = v632 := (f667 _ _ (fun q => by have z := ta0; rw [q.1, ta663] at z; exact absurd z (by decide))).trans c659
                                have hM676 : NmM I665 R0 L647 a1 (bdQ gB gQ 7 (tkN gB gs)) := NmM.kp1 hM662 f667 ta663 rfl rfl hS652.1 ta1
                                refine tr_aload_n dX12_readTurner_264 hl410 ?_
                                refine tr_getR dX12_readTurner_265 fl12_188 (kR15 hS666.1 ta0) d2 ?_
                                obtain ⟨a677, d678, ta677⟩ := rf14_21 hW0 ta1
                                refine tr_getR dX12_readTurner_268 fl12_336 (kR14 hS666.1 ta1) d678 ?_
                                refine tr_iload dX12_readTurner_271 rfl ?_
                                refine tr_iload dX12_readTurner_273 hl413 ?_
                                refine q_iast dX12_readTurner_275 (kR64 hS666.1 ta677) (ti_in (nR64 hS666.1 ta677) (by omega) (by omega)) hS666 ta677 (iokF rfl) rfl (by rfl) ?_
                                intro I679 hS680 e682 f681
                                have c683 : I679 a1 4 = v429 := (f681 _ _ (fun q => by have z := ta1; rw [q.1, ta677] at z; exact absurd z (by decide))).trans c669
                                have c684 : I679 a0 13 = v515 := (f681 _ _ (fun q => by have z := ta0; rw [q.1, ta677] at z; exact absurd z (by decide))).trans c670
                                have c685 : I679 a0 9 = v620 := (f681 _ _ (fun q => by have z := ta0; rw [q.1, ta677] at z; exact absurd z (by decide))).trans c671
                                have c686 : I679 a0 10 = v623 := (f681 _ _ (fun q => by have z := ta0; rw [q.1, ta677] at z; exact absurd z (by decide))).trans c672
                                have c687 : I679 a0 11 = v626 := (f681 _ _ (fun q => by have z := ta0; rw [q.1, ta677] at z; exact absurd z (by decide))).trans c673
                                have c688 : I679 a0 12 = v630 := (f681 _ _ (fun q => by have z := ta0; rw [q.1, ta677] at z; exact absurd z (by decide))).trans c674
                                have c689 : I679 a0 8 = v632 := (f681 _ _ (fun q => by have z := ta0; rw [q.1, ta677] at z; exact absurd z (by decide))).trans c675
                                have hM690 : NmM I679 R0 L647 a1 (bdQ gB gQ 7 (tkN gB gs)) := NmM.kp1 hM676 f681 ta677 rfl rfl hS666.1 ta1
                                refine tr_aload_n dX12_readTurner_276 hl410 ?_
                                refine tr_getR dX12_readTurner_277 fl12_188 (kR15 hS680.1 ta0) d2 ?_
                                obtain ⟨a691, d692, ta691⟩ := rf14_22 hW0 ta1
                                refine tr_getR dX12_readTurner_280 fl12_339 (kR14 hS680.1 ta1) d692 ?_
                                refine tr_iload dX12_readTurner_283 rfl ?_
                                refine tr_iload dX12_readTurner_285 hl414 ?_
                                refine q_iast dX12_readTurner_287 (kR65 hS680.1 ta691) (ti_in (nR65 hS680.1 ta691) (by omega) (by omega)) hS680 ta691 (iokF rfl) rfl (by rfl) ?_
                                intro I693 hS694 e696 f695
                                have c697 : I693 a1 4 = v429 := (f695 _ _ (fun q => by have z := ta1; rw [q.1, ta691] at z; exact absurd z (by decide))).trans c683
                                have c698 : I693 a0 13 = v515 := (f695 _ _ (fun q => by have z := ta0; rw [q.1, ta691] at z; exact absurd z (by decide))).trans c684
                                have c699 : I693 a0 9 = v620 := (f695 _ _ (fun q => by have z := ta0; rw [q.1, ta691] at z; exact absurd z (by decide))).trans c685
                                have c700 : I693 a0 10 = v623 := (f695 _ _ (fun q => by have z := ta0; rw [q.1, ta691] at z; exact absurd z (by decide))).trans c686
                                have c701 : I693 a0 11 = v626 := (f695 _ _ (fun q => by have z := ta0; rw [q.1, ta691] at z; exact absurd z (by decide))).trans c687
                                have c702 : I693 a0 12 = v630 := (f695 _ _ (fun q => by have z := ta0; rw [q.1, ta691] at z; exact absurd z (by decide))).trans c688
                                have c703 : I693 a0 8 = v632 := (f695 _ _ (fun q => by have z := ta0; rw [q.1, ta691] at z; exact absurd z (by decide))).trans c689
                                have hM704 : NmM I693 R0 L647 a1 (bdQ gB gQ 7 (tkN gB gs)) := NmM.kp1 hM690 f695 ta691 rfl rfl hS680.1 ta1
                                refine tr_aload_n dX12_readTurner_288 hl410 ?_
                                refine tr_getR dX12_readTurner_289 fl12_188 (kR15 hS694.1 ta0) d2 ?_
                                obtain ⟨a705, d706, ta705⟩ := rf14_23 hW0 ta1
                                refine tr_getR dX12_readTurner_292 fl12_342 (kR14 hS694.1 ta1) d706 ?_
                                refine tr_iload dX12_readTurner_295 rfl ?_
                                refine tr_iload dX12_readTurner_297 hl415 ?_
                                refine q_iast dX12_readTurner_299 (kR66 hS694.1 ta705) (ti_in (nR66 hS694.1 ta705) (by omega) (by omega)) hS694 ta705 (iokF rfl) rfl (by rfl) ?_
                                intro I707 hS708 e710 f709
                                have c711 : I707 a1 4 = v429 := (f709 _ _ (fun q => by have z := ta1; rw [q.1, ta705] at z; exact absurd z (by decide))).trans c697
                                have c712 : I707 a0 13 = v515 := (f709 _ _ (fun q => by have z := ta0; rw [q.1, ta705] at z; exact absurd z (by decide))).trans c698
                                have c713 : I707 a0 9 = v620 := (f709 _ _ (fun q => by have z := ta0; rw [q.1, ta705] at z; exact absurd z (by decide))).trans c699
                                have c714 : I707 a0 10 = v623 := (f709 _ _ (fun q => by have z := ta0; rw [q.1, ta705] at z; exact absurd z (by decide))).trans c700
                                have c715 : I707 a0 11 = v626 := (f709 _ _ (fun q => by have z := ta0; rw [q.1, ta705] at z; exact absurd z (by decide))).trans c701
                                have c716 : I707 a0 12 = v630 := (f709 _ _ (fun q => by have z := ta0; rw [q.1, ta705] at z; exact absurd z (by decide))).trans c702
                                have c717 : I707 a0 8 = v632 := (f709 _ _ (fun q => by have z := ta0; rw [q.1, ta705] at z; exact absurd z (by decide))).trans c703
                                have hM718 : NmM I707 R0 L647 a1 (bdQ gB gQ 7 (tkN gB gs)) := NmM.kp1 hM704 f709 ta705 rfl rfl hS694.1 ta1
                                refine tr_aload_n dX12_readTurner_300 hl410 ?_
                                refine tr_getR dX12_readTurner_301 fl12_188 (kR15 hS708.1 ta0) d2 ?_
                                obtain ⟨a719, d720, ta719⟩ := rf14_24 hW0 ta1
                                refine tr_getR dX12_readTurner_304 fl12_344 (kR14 hS708.1 ta1) d720 ?_
                                refine tr_iload dX12_readTurner_307 rfl ?_
                                refine tr_iload dX12_readTurner_309 hl416 ?_
                                refine q_iast dX12_readTurner_311 (kR67 hS708.1 ta719) (ti_in (nR67 hS708.1 ta719) (by omega) (by omega)) hS708 ta719 (iokF rfl) rfl (by rfl) ?_
                                intro I721 hS722 e724 f723
                                have c725 : I721 a1 4 = v429 := (f723 _ _ (fun q => by have z := ta1; rw [q.1, ta719] at z; exact absurd z (by decide))).trans c711
                                have c726 : I721 a0 13 = v515 := (f723 _ _ (fun q => by have z := ta0; rw [q.1, ta719] at z; exact absurd z (by decide))).trans c712
                                have c727 : I721 a0 9 = v620 := (f723 _ _ (fun q => by have z := ta0; rw [q.1, ta719] at z; exact absurd z (by decide))).trans c713
                                have c728 : I721 a0 10 = v623 := (f723 _ _ (fun q => by have z := ta0; rw [q.1, ta719] at z; exact absurd z (by decide))).trans c714
                                have c729 : I721 a0 11 = v626 := (f723 _ _ (fun q => by have z := ta0; rw [q.1, ta719] at z; exact absurd z (by decide))).trans c715
                                have c730 : I721 a0 12 = v630 := (f723 _ _ (fun q => by have z := ta0; rw [q.1, ta719] at z; exact absurd z (by decide))).trans c716
                                have c731 : I721 a0 8 = v632 := (f723 _ _ (fun q => by have z := ta0; rw [q.1, ta719] at z; exact absurd z (by decide))).trans c717
                                have hM732 : NmM I721 R0 L647 a1 (bdQ gB gQ 7 (tkN gB gs)) := NmM.kp1 hM718 f723 ta719 rfl rfl hS708.1 ta1
                                refine tr_aload_n dX12_readTurner_312 hl410 ?_
                                refine tr_getR dX12_readTurner_313 fl12_188 (kR15 hS722.1 ta0) d2 ?_
                                obtain ⟨a733, d734, ta733⟩ := rf14_25 hW0 ta1
                                refine tr_getR dX12_readTurner_316 fl12_346 (kR14 hS722.1 ta1) d734 ?_
                                refine tr_iload dX12_readTurner_319 rfl ?_
                                refine tr_iload dX12_readTurner_321 rfl ?_
                                refine q_iast dX12_readTurner_323 (kR68 hS722.1 ta733) (ti_in (nR68 hS722.1 ta733) (by omega) (by omega)) hS722 ta733 (iokF rfl) rfl (by rfl) ?_
                                intro I735 hS736 e738 f737
                                have c739 : I735 a1 4 = v429 := (f737 _ _ (fun q => by have z := ta1; rw [q.1, ta733] at z; exact absurd z (by decide))).trans c725
                                have c740 : I735 a0 13 = v515 := (f737 _ _ (fun q => by have z := ta0; rw [q.1, ta733] at z; exact absurd z (by decide))).trans c726
                                have c741 : I735 a0 9 = v620 := (f737 _ _ (fun q => by have z := ta0; rw [q.1, ta733] at z; exact absurd z (by decide))).trans c727
                                have c742 : I735 a0 10 = v623 := (f737 _ _ (fun q => by have z := ta0; rw [q.1, ta733] at z; exact absurd z (by decide))).trans c728
                                have c743 : I735 a0 11 = v626 := (f737 _ _ (fun q => by have z := ta0; rw [q.1, ta733] at z; exact absurd z (by decide))).trans c729
                                have c744 : I735 a0 12 = v630 := (f737 _ _ (fun q => by have z := ta0; rw [q.1, ta733] at z; exact absurd z (by decide))).trans c730
                                have c745 : I735 a0 8 = v632 := (f737 _ _ (fun q => by have z := ta0; rw [q.1, ta733] at z; exact absurd z (by decide))).trans c731
                                have hM746 : NmM I735 R0 L647 a1 (bdQ gB gQ 7 (tkN gB gs)) := NmM.kp1 hM732 f737 ta733 rfl rfl hS722.1 ta1
                                refine tr_aload_n dX12_readTurner_324 hl410 ?_
                                refine tr_getR dX12_readTurner_325 fl12_188 (kR15 hS736.1 ta0) d2 ?_
                                refine tr_dup dX12_readTurner_328 rfl ?_
                                refine q_getI dX12_readTurner_329 fl12_315 (kR14 hS736.1 ta1) c739 ?_
                                refine q_iconst dX12_readTurner_332 (by decide) ?_
                                intro v747 h748
                                refine q_iaddE dX12_readTurner_333 (by intros; omega) ?_
                                intro v749 h750
                                refine q_putX dX12_readTurner_334 fl12_315 (kR14 hS736.1 ta1) (Or.inl rfl) hS736 ta1 (by decide +kernel) (hS736.1.putN (d' := 0) ta0 d2 (Or.inr (Or.inr rfl)) (by rw [c739]; omega) (by decide) (by show (0 : Int) ≤ v749.toInt ∧ v749.toInt ≤ (5 : Int); omega)) ?_
                                intro I751 hS752 e753 f754
                                have c755 : I751 a0 13 = v515 := (f754 _ _ (fun q => absurd q.2 (by decide))).trans c740
                                have c756 : I751 a0 9 = v620 := (f754 _ _ (fun q => absurd q.2 (by decide))).trans c741
                                have c757 : I751 a0 10 = v623 := (f754 _ _ (fun q => absurd q.2 (by decide))).trans c742
                                have c758 : I751 a0 11 = v626 := (f754 _ _ (fun q => absurd q.2 (by decide))).trans c743
                                have c759 : I751 a0 12 = v630 := (f754 _ _ (fun q => absurd q.2 (by decide))).trans c744
                                have c760 : I751 a0 8 = v632 := (f754 _ _ (fun q => absurd q.2 (by decide))).trans c745
                                have hM761 : NmM I751 R0 L647 a1 (bdQ gB gQ 7 (tkN gB gs)) := NmM.kp1 hM746 f754 ta1 rfl rfl hS736.1 ta1
                                obtain ⟨v762, c763⟩ : ∃ v, I751 a0 14 = v := ⟨_, rfl⟩
                                have u764 : huF gB gQ 901 0 (tkN gB (tkN gB (tkN gB (tkN gB (tkN gB (tkN gB (tkN gB (tkN gB (tkN gB (tkN gB (tkN gB (tkN gB gs)))))))))))) = 0 := by rw [← g443]; simp only [huF, ↓reduceIte]; repeat' (first | split | omega)
                                have eF := hF.eq
                                have eP := hP.eq
                                have es765 : tuS gB gQ (tkN gB gs) = (tkN gB gs421) := by rw [tuS, ← g445]; simp only [huS, ↓reduceIte]; repeat' (first | split | omega)
                                exact tr_vret hZ dX12_readTurner_337 rfl (by decide) (by decide) (hq _ _ _ ⟨hS752, (Or.inl ⟨(by (try rw [w76]); (try rw [es765]); first | done | omega), (fun q0 z0 => by obtain rfl := Option.some.inj ((d2).symm.trans z0); (try rw [w76]); (try rw [es765]); (try rw [((hS752.cell ta1 (by decide +kernel)).trans c30)]); first | done | omega), (fun q0 z0 => by obtain rfl := Option.some.inj ((d2).symm.trans z0); (try rw [w76]); (try rw [es765]); (try rw [((hS752.cell ta1 (by decide +kernel)).trans c34)]); first | done | omega), (fun q0 z0 => by obtain rfl := Option.some.inj ((d2).symm.trans z0); (try rw [w76]); (try rw [es765]); (try rw [((hS752.cell ta1 (by decide +kernel)).trans c38)]); first | done | omega), (fun q0 z0 => by obtain rfl := Option.some.inj ((d2).symm.trans z0); (try rw [w76]); (try rw [es765]); (try rw [((hS752.cell ta1 (by decide +kernel)).trans c42)]); first | done | omega), (fun q0 z0 => by obtain rfl := Option.some.inj ((d2).symm.trans z0); (try rw [w76]); (try rw [es765]); (try rw [e753]); first | done | omega), (fun q0 z0 => by obtain rfl := Option.some.inj ((d2).symm.trans z0); (try rw [w76]); (try rw [es765]); (try rw [((hS752.cell ta1 (by decide +kernel)).trans c50)]); first | done | omega), (fun q0 z0 => by obtain rfl := Option.some.inj ((d2).symm.trans z0); (try rw [w76]); (try rw [es765]); (try rw [((hS752.cell ta1 (by decide +kernel)).trans c54)]); first | done | omega), (fun q0 z0 => by obtain rfl := Option.some.inj ((d2).symm.trans z0); (try rw [w76]); (try rw [es765]); (try rw [((hS752.cell ta1 (by decide +kernel)).trans c58)]); first | done | omega), (by (try rw [w76]); (try rw [es765]); (try rw [c755]); (try rw [c72]); first | done | omega), (by (try rw [w76]); (try rw [es765]); (try rw [c756]); first | done | omega), (by (try rw [w76]); (try rw [es765]); (try rw [c756]); first | done | omega), (by (try rw [w76]); (try rw [es765]); (try rw [c757]); first | done | omega), (by (try rw [w76]); (try rw [es765]); (try rw [c758]); first | done | omega), (by (try rw [w76]); (try rw [es765]); (try rw [c661]); first | done | assumption), (by (try rw [w76]); (try rw [es765]); (try rw [c759]); first | done | assumption), (by (try rw [w76]); (try rw [es765]); (try rw [c760]); first | done | assumption), hL660, (fun b hb => (Option.some.inj (d2.symm.trans hb)) ▸ NmM.ln hM761 (by omega)), trivial⟩), trivial⟩)
                              · skip
                                exfalso; omega
                            · skip
                              exfalso; omega
                        · skip
                          refine tr_aload_n dX12_readTurner_198 hl410 ?_
                          refine q_iconst dX12_readTurner_199 (by decide) ?_
                          intro v766 h767
                          refine q_callVv hE (M' := mX12_flaw) (as := [_]) dX12_readTurner_200 lk12_145 inX12_flaw seX12_flaw myX12_flaw (by decide) ⟨by decide, by decide⟩ rfl (kR15 hS486.1 ta0) (Nat.le_of_ble_eq_true rfl) rfl rfl (by decide) (by decide) (fk_X12_flaw hS486.1  ta0 (by omega) (by (try rw [c518]); first | done | omega)) ?_
                          rintro cn' K' N' I768 R769 L770 ⟨rfl, rfl, rfl, rfl, rfl, g771, p774, p775, p776, -⟩
                          have hM777 : NmM I768 R0 L420 a1 gQ := NmM.kpS hM485 g771 hS486.1 ta1 (by decide +kernel) (by decide +kernel)
                          have hS778 := hS486.tr g771 (by decide +kernel) (by decide +kernel)
                          have c779 : I768 a1 4 = v429 := (g771.cell ta1 (by decide +kernel)).trans c487
                          have c780 : I768 a0 10 = v433 := (g771.cell ta0 (by decide +kernel)).trans c488
                          have c781 : I768 a0 11 = v435 := (g771.cell ta0 (by decide +kernel)).trans c489
                          have c782 : I768 a0 12 = v439 := (g771.cell ta0 (by decide +kernel)).trans c490
                          have c783 : I768 a0 8 = v441 := (g771.cell ta0 (by decide +kernel)).trans c491
                          obtain ⟨v784, c785⟩ : ∃ v, I768 a0 9 = v := ⟨_, rfl⟩
                          have b786 := iv15_9 hS778.1 ta0 c785
                          rw [c785] at p774
                          obtain ⟨v787, c788⟩ : ∃ v, I768 a0 13 = v := ⟨_, rfl⟩
                          rw [c788] at p775
                          obtain ⟨v789, c790⟩ : ∃ v, I768 a0 14 = v := ⟨_, rfl⟩
                          rw [c790] at p776
                          rw [c488] at p776
                          refine tr_aload_n dX12_readTurner_203 hl410 ?_
                          refine q_callVv hE (M' := mX12_goesOn) (as := []) dX12_readTurner_204 lk12_142 inX12_goesOn seX12_goesOn myX12_goesOn (by decide) ⟨by decide, by decide⟩ rfl (kR15 hS778.1 ta0) (Nat.le_of_ble_eq_true rfl) rfl rfl (by decide) (by decide) (k_X12_goesOn hS778.1 ta0) ?_
                          rintro cn' K' N' I791 R792 L793 ⟨rfl, rfl, rfl, rfl, g794, p796, p797, p798, w799, -⟩
                          have hS800 := hS778.tr g794 (by decide +kernel) (by decide +kernel)
                          have c801 : I791 a1 4 = v429 := (g794.cell ta1 (by decide +kernel)).trans c779
                          have c802 : I791 a0 13 = v787 := (g794.cell ta0 (by decide +kernel)).trans c788
                          have c803 : I791 a0 14 = v789 := (g794.cell ta0 (by decide +kernel)).trans c790
                          obtain ⟨v804, c805⟩ : ∃ v, I791 a0 9 = v := ⟨_, rfl⟩
                          have b806 := iv15_9 hS800.1 ta0 c805
                          rw [c785] at p796
                          rw [c805] at p796
                          rw [c785] at p797
                          rw [c805] at p797
                          obtain ⟨v807, c808⟩ : ∃ v, I791 a0 8 = v := ⟨_, rfl⟩
                          have b809 := iv15_8 hS800.1 ta0 c808
                          rw [c808] at p798
                          rw [c783] at p798
                          rw [c802] at p798
                          rw [c788] at p798
                          have ov810 := w799.over (by rw [c785]; omega)
                          obtain ⟨v811, c812⟩ : ∃ v, I791 a0 9 = v := ⟨_, rfl⟩
                          have b813 := iv15_9 hS800.1 ta0 c812
                          obtain ⟨v814, c815⟩ : ∃ v, I791 a0 13 = v := ⟨_, rfl⟩
                          obtain ⟨v816, c817⟩ : ∃ v, I791 a0 14 = v := ⟨_, rfl⟩
                          (try rw [c812] at ov810)
                          (try rw [c815] at ov810)
                          (try rw [c817] at ov810)
                          (try rw [c785] at ov810)
                          (try rw [c788] at ov810)
                          (try rw [c790] at ov810)
                          refine tr_iload dX12_readTurner_207 hl417 ?_
                          refine q_iconst dX12_readTurner_209 (by decide) ?_
                          intro v818 h819
                          refine tr_iload dX12_readTurner_210 rfl ?_
                          refine q_ishlE dX12_readTurner_212 (by omega) (by omega) ?_
                          intro v820 h821
                          refine q_ior dX12_readTurner_213 ?_
                          intro v822
                          refine tr_istore dX12_readTurner_214 (by decide) (by decide) ?_
                          refine tr_aload_n dX12_readTurner_216 hl410 ?_
                          refine q_bipush dX12_readTurner_217 (by decide +kernel) ?_
                          intro v823 h824
                          refine q_callVi hE (M' := mX12_eatsSign) (as := [_]) dX12_readTurner_219 lk12_221 inX12_eatsSign seX12_eatsSign myX12_eatsSign (by decide) ⟨by decide, by decide⟩ rfl (kR15 hS800.1 ta0) (Nat.le_of_ble_eq_true rfl) rfl rfl (by decide) (by decide) (k_X12_eatsSign hS800.1 ta0) ?_
                          rintro v829 cn' K' N' I825 R826 L827 ⟨rfl, rfl, rfl, rfl, g828, h830, p831, p832, w833, -⟩
                          have hS834 := hS800.tr g828 (by decide +kernel) (by decide +kernel)
                          have c835 : I825 a1 4 = v429 := (g828.cell ta1 (by decide +kernel)).trans c801
                          have c836 : I825 a0 13 = v814 := (g828.cell ta0 (by decide +kernel)).trans c815
                          have c837 : I825 a0 14 = v816 := (g828.cell ta0 (by decide +kernel)).trans c817
                          rw [c812] at p831
                          obtain ⟨v838, c839⟩ : ∃ v, I825 a0 8 = v := ⟨_, rfl⟩
                          have b840 := iv15_8 hS834.1 ta0 c839
                          rw [c839] at p832
                          rw [c808] at p832
                          have ov841 := w833.over (by rw [c812]; omega)
                          obtain ⟨v842, c843⟩ : ∃ v, I825 a0 9 = v := ⟨_, rfl⟩
                          have b844 := iv15_9 hS834.1 ta0 c843
                          obtain ⟨v845, c846⟩ : ∃ v, I825 a0 13 = v := ⟨_, rfl⟩
                          obtain ⟨v847, c848⟩ : ∃ v, I825 a0 14 = v := ⟨_, rfl⟩
                          (try rw [c843] at ov841)
                          (try rw [c846] at ov841)
                          (try rw [c848] at ov841)
                          (try rw [c812] at ov841)
                          (try rw [c815] at ov841)
                          (try rw [c817] at ov841)
                          refine tr_istore dX12_readTurner_222 (by decide) (by decide) ?_
                          refine tr_goto 159 dX12_readTurner_224 (by decide) ?_
                          refine tr_iload dX12_readTurner_159 rfl ?_
                          refine q_if_eq 227 dX12_readTurner_161 (by decide) (fun h849 => ?_) (fun h849 => ?_)
                          · skip
                            refine tr_aload_n dX12_readTurner_227 hl410 ?_
                            refine q_getI dX12_readTurner_228 fl12_99 (kR15 hS834.1 ta0) c843 ?_
                            refine q_iconst dX12_readTurner_231 (by decide) ?_
                            intro v850 h851
                            refine q_icmp_ne 236 dX12_readTurner_232 (by decide) (fun h852 => ?_) (fun h852 => ?_)
                            · skip
                              exfalso; omega
                            · skip
                              have u853 : huF gB gQ 901 0 (tkN gB (tkN gB (tkN gB (tkN gB (tkN gB (tkN gB (tkN gB (tkN gB (tkN gB (tkN gB (tkN gB (tkN gB gs)))))))))))) = v845.toInt := by rw [← g443]; simp only [huF, ↓reduceIte]; repeat' (first | split | omega)
                              have u853p : huP gB gQ 901 0 (tkN gB (tkN gB (tkN gB (tkN gB (tkN gB (tkN gB (tkN gB (tkN gB (tkN gB (tkN gB (tkN gB (tkN gB gs)))))))))))) = v847.toInt := by rw [← g444]; simp only [huP, ↓reduceIte]; repeat' (first | split | omega)
                              have eF := hF.eq
                              have eP := hP.eq
                              obtain ⟨v854, c855⟩ : ∃ v, I825 a0 10 = v := ⟨_, rfl⟩
                              have b856 := iv15_10 hS834.1 ta0 c855
                              obtain ⟨v857, c858⟩ : ∃ v, I825 a0 11 = v := ⟨_, rfl⟩
                              obtain ⟨y859, c860⟩ : ∃ v, L827 a0 15 = v := ⟨_, rfl⟩
                              obtain ⟨v861, c862⟩ : ∃ v, I825 a0 12 = v := ⟨_, rfl⟩
                              exact tr_vret hZ dX12_readTurner_235 rfl (by decide) (by decide) (hq _ _ _ ⟨hS834, (Or.inr (⟨(by (try rw [w76]); first | done | omega), (by (try rw [w76]); (try rw [c843]); first | done | omega), (by (try rw [w76]); (try rw [c846]); first | done | omega), (by (try rw [w76]); (try rw [c848]); first | done | omega), trivial⟩)), trivial⟩)
                          · skip
                            exfalso; omega
                      · skip
                        obtain ⟨v863, c864⟩ : ∃ v, I478 a0 9 = v := ⟨_, rfl⟩
                        have b865 := iv15_9 hS486.1 ta0 c864
                        rw [c864] at p506
                        obtain ⟨v866, c867⟩ : ∃ v, I478 a0 13 = v := ⟨_, rfl⟩
                        rw [c867] at p507
                        obtain ⟨v868, c869⟩ : ∃ v, I478 a0 14 = v := ⟨_, rfl⟩
                        rw [c869] at p508
                        refine tr_istore dX12_readTurner_186 (by decide) (by decide) ?_
                        refine tr_iload dX12_readTurner_188 hl417 ?_
                        refine tr_iload dX12_readTurner_190 rfl ?_
                        refine q_callSi hE (M' := mX12_has) (as := [_, _]) dX12_readTurner_192 lk12_329 inX12_has myX12_has ⟨by decide, by decide⟩ rfl (Nat.le_of_ble_eq_true rfl) rfl rfl (by decide) (by decide) (k_X12_has hS486.1 ) ?_
                        rintro v874 cn' K' N' I870 R871 L872 ⟨rfl, rfl, rfl, rfl, rfl, rfl, h875, -⟩
                        refine q_if_eq 203 dX12_readTurner_195 (by decide) (fun h876 => ?_) (fun h876 => ?_)
                        · skip
                          refine tr_aload_n dX12_readTurner_203 hl410 ?_
                          refine q_callVv hE (M' := mX12_goesOn) (as := []) dX12_readTurner_204 lk12_142 inX12_goesOn seX12_goesOn myX12_goesOn (by decide) ⟨by decide, by decide⟩ rfl (kR15 hS486.1 ta0) (Nat.le_of_ble_eq_true rfl) rfl rfl (by decide) (by decide) (k_X12_goesOn hS486.1 ta0) ?_
                          rintro cn' K' N' I877 R878 L879 ⟨rfl, rfl, rfl, rfl, g880, p882, p883, p884, w885, -⟩
                          have hS886 := hS486.tr g880 (by decide +kernel) (by decide +kernel)
                          have c887 : I877 a1 4 = v429 := (g880.cell ta1 (by decide +kernel)).trans c487
                          have c888 : I877 a0 13 = v866 := (g880.cell ta0 (by decide +kernel)).trans c867
                          have c889 : I877 a0 14 = v868 := (g880.cell ta0 (by decide +kernel)).trans c869
                          obtain ⟨v890, c891⟩ : ∃ v, I877 a0 9 = v := ⟨_, rfl⟩
                          have b892 := iv15_9 hS886.1 ta0 c891
                          rw [c864] at p882
                          rw [c891] at p882
                          rw [c864] at p883
                          rw [c891] at p883
                          obtain ⟨v893, c894⟩ : ∃ v, I877 a0 8 = v := ⟨_, rfl⟩
                          have b895 := iv15_8 hS886.1 ta0 c894
                          rw [c894] at p884
                          rw [c491] at p884
                          rw [c888] at p884
                          rw [c867] at p884
                          have ov896 := w885.over (by rw [c864]; omega)
                          obtain ⟨v897, c898⟩ : ∃ v, I877 a0 9 = v := ⟨_, rfl⟩
                          have b899 := iv15_9 hS886.1 ta0 c898
                          obtain ⟨v900, c901⟩ : ∃ v, I877 a0 13 = v := ⟨_, rfl⟩
                          obtain ⟨v902, c903⟩ : ∃ v, I877 a0 14 = v := ⟨_, rfl⟩
                          (try rw [c898] at ov896)
                          (try rw [c901] at ov896)
                          (try rw [c903] at ov896)
                          (try rw [c864] at ov896)
                          (try rw [c867] at ov896)
                          (try rw [c869] at ov896)
                          refine tr_iload dX12_readTurner_207 hl417 ?_
                          refine q_iconst dX12_readTurner_209 (by decide) ?_
                          intro v904 h905
                          refine tr_iload dX12_readTurner_210 rfl ?_
                          refine q_ishlE dX12_readTurner_212 (by omega) (by omega) ?_
                          intro v906 h907
                          refine q_ior dX12_readTurner_213 ?_
                          intro v908
                          refine tr_istore dX12_readTurner_214 (by decide) (by decide) ?_
                          refine tr_aload_n dX12_readTurner_216 hl410 ?_
                          refine q_bipush dX12_readTurner_217 (by decide +kernel) ?_
                          intro v909 h910
                          refine q_callVi hE (M' := mX12_eatsSign) (as := [_]) dX12_readTurner_219 lk12_221 inX12_eatsSign seX12_eatsSign myX12_eatsSign (by decide) ⟨by decide, by decide⟩ rfl (kR15 hS886.1 ta0) (Nat.le_of_ble_eq_true rfl) rfl rfl (by decide) (by decide) (k_X12_eatsSign hS886.1 ta0) ?_
                          rintro v915 cn' K' N' I911 R912 L913 ⟨rfl, rfl, rfl, rfl, g914, h916, p917, p918, w919, -⟩
                          have hS920 := hS886.tr g914 (by decide +kernel) (by decide +kernel)
                          have c921 : I911 a1 4 = v429 := (g914.cell ta1 (by decide +kernel)).trans c887
                          have c922 : I911 a0 13 = v900 := (g914.cell ta0 (by decide +kernel)).trans c901
                          have c923 : I911 a0 14 = v902 := (g914.cell ta0 (by decide +kernel)).trans c903
                          rw [c898] at p917
                          obtain ⟨v924, c925⟩ : ∃ v, I911 a0 8 = v := ⟨_, rfl⟩
                          have b926 := iv15_8 hS920.1 ta0 c925
                          rw [c925] at p918
                          rw [c894] at p918
                          have ov927 := w919.over (by rw [c898]; omega)
                          obtain ⟨v928, c929⟩ : ∃ v, I911 a0 9 = v := ⟨_, rfl⟩
                          have b930 := iv15_9 hS920.1 ta0 c929
                          obtain ⟨v931, c932⟩ : ∃ v, I911 a0 13 = v := ⟨_, rfl⟩
                          obtain ⟨v933, c934⟩ : ∃ v, I911 a0 14 = v := ⟨_, rfl⟩
                          (try rw [c929] at ov927)
                          (try rw [c932] at ov927)
                          (try rw [c934] at ov927)
                          (try rw [c898] at ov927)
                          (try rw [c901] at ov927)
                          (try rw [c903] at ov927)
                          refine tr_istore dX12_readTurner_222 (by decide) (by decide) ?_
                          refine tr_goto 159 dX12_readTurner_224 (by decide) ?_
                          refine tr_iload dX12_readTurner_159 rfl ?_
                          refine q_if_eq 227 dX12_readTurner_161 (by decide) (fun h935 => ?_) (fun h935 => ?_)
                          · skip
                            refine tr_aload_n dX12_readTurner_227 hl410 ?_
                            refine q_getI dX12_readTurner_228 fl12_99 (kR15 hS920.1 ta0) c929 ?_
                            refine q_iconst dX12_readTurner_231 (by decide) ?_
                            intro v936 h937
                            refine q_icmp_ne 236 dX12_readTurner_232 (by decide) (fun h938 => ?_) (fun h938 => ?_)
                            · skip
                              exfalso; omega
                            · skip
                              have u939 : huF gB gQ 901 0 (tkN gB (tkN gB (tkN gB (tkN gB (tkN gB (tkN gB (tkN gB (tkN gB (tkN gB (tkN gB (tkN gB (tkN gB gs)))))))))))) = v931.toInt := by rw [← g443]; simp only [huF, ↓reduceIte]; repeat' (first | split | omega)
                              have u939p : huP gB gQ 901 0 (tkN gB (tkN gB (tkN gB (tkN gB (tkN gB (tkN gB (tkN gB (tkN gB (tkN gB (tkN gB (tkN gB (tkN gB gs)))))))))))) = v933.toInt := by rw [← g444]; simp only [huP, ↓reduceIte]; repeat' (first | split | omega)
                              have eF := hF.eq
                              have eP := hP.eq
                              obtain ⟨v940, c941⟩ : ∃ v, I911 a0 10 = v := ⟨_, rfl⟩
                              have b942 := iv15_10 hS920.1 ta0 c941
                              obtain ⟨v943, c944⟩ : ∃ v, I911 a0 11 = v := ⟨_, rfl⟩
                              obtain ⟨y945, c946⟩ : ∃ v, L913 a0 15 = v := ⟨_, rfl⟩
                              obtain ⟨v947, c948⟩ : ∃ v, I911 a0 12 = v := ⟨_, rfl⟩
                              exact tr_vret hZ dX12_readTurner_235 rfl (by decide) (by decide) (hq _ _ _ ⟨hS920, (Or.inr (⟨(by (try rw [w76]); first | done | omega), (by (try rw [w76]); (try rw [c929]); first | done | omega), (by (try rw [w76]); (try rw [c932]); first | done | omega), (by (try rw [w76]); (try rw [c934]); first | done | omega), trivial⟩)), trivial⟩)
                          · skip
                            exfalso; omega
                        · skip
                          refine tr_aload_n dX12_readTurner_198 hl410 ?_
                          refine q_iconst dX12_readTurner_199 (by decide) ?_
                          intro v949 h950
                          refine q_callVv hE (M' := mX12_flaw) (as := [_]) dX12_readTurner_200 lk12_145 inX12_flaw seX12_flaw myX12_flaw (by decide) ⟨by decide, by decide⟩ rfl (kR15 hS486.1 ta0) (Nat.le_of_ble_eq_true rfl) rfl rfl (by decide) (by decide) (k_X12_flaw hS486.1 ta0 (by omega)) ?_
                          rintro cn' K' N' I951 R952 L953 ⟨rfl, rfl, rfl, rfl, rfl, g954, p956, p957, w958, -⟩
                          have hS959 := hS486.tr g954 (by decide +kernel) (by decide +kernel)
                          have c960 : I951 a1 4 = v429 := (g954.cell ta1 (by decide +kernel)).trans c487
                          have c961 : I951 a0 10 = v433 := (g954.cell ta0 (by decide +kernel)).trans c488
                          have c962 : I951 a0 11 = v435 := (g954.cell ta0 (by decide +kernel)).trans c489
                          have c963 : I951 a0 12 = v439 := (g954.cell ta0 (by decide +kernel)).trans c490
                          have c964 : I951 a0 8 = v441 := (g954.cell ta0 (by decide +kernel)).trans c491
                          obtain ⟨v965, c966⟩ : ∃ v, I951 a0 9 = v := ⟨_, rfl⟩
                          have b967 := iv15_9 hS959.1 ta0 c966
                          rw [c966] at p956
                          rw [c964] at p957
                          rw [c491] at p957
                          have ov968 := w958.over (by rw [c864]; omega)
                          obtain ⟨v969, c970⟩ : ∃ v, I951 a0 9 = v := ⟨_, rfl⟩
                          have b971 := iv15_9 hS959.1 ta0 c970
                          obtain ⟨v972, c973⟩ : ∃ v, I951 a0 13 = v := ⟨_, rfl⟩
                          obtain ⟨v974, c975⟩ : ∃ v, I951 a0 14 = v := ⟨_, rfl⟩
                          (try rw [c970] at ov968)
                          (try rw [c973] at ov968)
                          (try rw [c975] at ov968)
                          (try rw [c864] at ov968)
                          (try rw [c867] at ov968)
                          (try rw [c869] at ov968)
                          refine tr_aload_n dX12_readTurner_203 hl410 ?_
                          refine q_callVv hE (M' := mX12_goesOn) (as := []) dX12_readTurner_204 lk12_142 inX12_goesOn seX12_goesOn myX12_goesOn (by decide) ⟨by decide, by decide⟩ rfl (kR15 hS959.1 ta0) (Nat.le_of_ble_eq_true rfl) rfl rfl (by decide) (by decide) (k_X12_goesOn hS959.1 ta0) ?_
                          rintro cn' K' N' I976 R977 L978 ⟨rfl, rfl, rfl, rfl, g979, p981, p982, p983, w984, -⟩
                          have hS985 := hS959.tr g979 (by decide +kernel) (by decide +kernel)
                          have c986 : I976 a1 4 = v429 := (g979.cell ta1 (by decide +kernel)).trans c960
                          have c987 : I976 a0 13 = v972 := (g979.cell ta0 (by decide +kernel)).trans c973
                          have c988 : I976 a0 14 = v974 := (g979.cell ta0 (by decide +kernel)).trans c975
                          obtain ⟨v989, c990⟩ : ∃ v, I976 a0 9 = v := ⟨_, rfl⟩
                          have b991 := iv15_9 hS985.1 ta0 c990
                          rw [c970] at p981
                          rw [c990] at p981
                          rw [c970] at p982
                          rw [c990] at p982
                          obtain ⟨v992, c993⟩ : ∃ v, I976 a0 8 = v := ⟨_, rfl⟩
                          have b994 := iv15_8 hS985.1 ta0 c993
                          rw [c993] at p983
                          rw [c964] at p983
                          rw [c987] at p983
                          rw [c973] at p983
                          have ov995 := w984.over (by rw [c970]; omega)
                          obtain ⟨v996, c997⟩ : ∃ v, I976 a0 9 = v := ⟨_, rfl⟩
                          have b998 := iv15_9 hS985.1 ta0 c997
                          obtain ⟨v999, c1000⟩ : ∃ v, I976 a0 13 = v := ⟨_, rfl⟩
                          obtain ⟨v1001, c1002⟩ : ∃ v, I976 a0 14 = v := ⟨_, rfl⟩
                          (try rw [c997] at ov995)
                          (try rw [c1000] at ov995)
                          (try rw [c1002] at ov995)
                          (try rw [c970] at ov995)
                          (try rw [c973] at ov995)
                          (try rw [c975] at ov995)
                          refine tr_iload dX12_readTurner_207 hl417 ?_
                          refine q_iconst dX12_readTurner_209 (by decide) ?_
                          intro v1003 h1004
                          refine tr_iload dX12_readTurner_210 rfl ?_
                          refine q_ishlE dX12_readTurner_212 (by omega) (by omega) ?_
                          intro v1005 h1006
                          refine q_ior dX12_readTurner_213 ?_
                          intro v1007
                          refine tr_istore dX12_readTurner_214 (by decide) (by decide) ?_
                          refine tr_aload_n dX12_readTurner_216 hl410 ?_
                          refine q_bipush dX12_readTurner_217 (by decide +kernel) ?_
                          intro v1008 h1009
                          refine q_callVi hE (M' := mX12_eatsSign) (as := [_]) dX12_readTurner_219 lk12_221 inX12_eatsSign seX12_eatsSign myX12_eatsSign (by decide) ⟨by decide, by decide⟩ rfl (kR15 hS985.1 ta0) (Nat.le_of_ble_eq_true rfl) rfl rfl (by decide) (by decide) (k_X12_eatsSign hS985.1 ta0) ?_
                          rintro v1014 cn' K' N' I1010 R1011 L1012 ⟨rfl, rfl, rfl, rfl, g1013, h1015, p1016, p1017, w1018, -⟩
                          have hS1019 := hS985.tr g1013 (by decide +kernel) (by decide +kernel)
                          have c1020 : I1010 a1 4 = v429 := (g1013.cell ta1 (by decide +kernel)).trans c986
                          have c1021 : I1010 a0 13 = v999 := (g1013.cell ta0 (by decide +kernel)).trans c1000
                          have c1022 : I1010 a0 14 = v1001 := (g1013.cell ta0 (by decide +kernel)).trans c1002
                          rw [c997] at p1016
                          obtain ⟨v1023, c1024⟩ : ∃ v, I1010 a0 8 = v := ⟨_, rfl⟩
                          have b1025 := iv15_8 hS1019.1 ta0 c1024
                          rw [c1024] at p1017
                          rw [c993] at p1017
                          have ov1026 := w1018.over (by rw [c997]; omega)
                          obtain ⟨v1027, c1028⟩ : ∃ v, I1010 a0 9 = v := ⟨_, rfl⟩
                          have b1029 := iv15_9 hS1019.1 ta0 c1028
                          obtain ⟨v1030, c1031⟩ : ∃ v, I1010 a0 13 = v := ⟨_, rfl⟩
                          obtain ⟨v1032, c1033⟩ : ∃ v, I1010 a0 14 = v := ⟨_, rfl⟩
                          (try rw [c1028] at ov1026)
                          (try rw [c1031] at ov1026)
                          (try rw [c1033] at ov1026)
                          (try rw [c997] at ov1026)
                          (try rw [c1000] at ov1026)
                          (try rw [c1002] at ov1026)
                          refine tr_istore dX12_readTurner_222 (by decide) (by decide) ?_
                          refine tr_goto 159 dX12_readTurner_224 (by decide) ?_
                          refine tr_iload dX12_readTurner_159 rfl ?_
                          refine q_if_eq 227 dX12_readTurner_161 (by decide) (fun h1034 => ?_) (fun h1034 => ?_)
                          · skip
                            refine tr_aload_n dX12_readTurner_227 hl410 ?_
                            refine q_getI dX12_readTurner_228 fl12_99 (kR15 hS1019.1 ta0) c1028 ?_
                            refine q_iconst dX12_readTurner_231 (by decide) ?_
                            intro v1035 h1036
                            refine q_icmp_ne 236 dX12_readTurner_232 (by decide) (fun h1037 => ?_) (fun h1037 => ?_)
                            · skip
                              exfalso; omega
                            · skip
                              have u1038 : huF gB gQ 901 0 (tkN gB (tkN gB (tkN gB (tkN gB (tkN gB (tkN gB (tkN gB (tkN gB (tkN gB (tkN gB (tkN gB (tkN gB gs)))))))))))) = v1030.toInt := by rw [← g443]; simp only [huF, ↓reduceIte]; repeat' (first | split | omega)
                              have u1038p : huP gB gQ 901 0 (tkN gB (tkN gB (tkN gB (tkN gB (tkN gB (tkN gB (tkN gB (tkN gB (tkN gB (tkN gB (tkN gB (tkN gB gs)))))))))))) = v1032.toInt := by rw [← g444]; simp only [huP, ↓reduceIte]; repeat' (first | split | omega)
                              have eF := hF.eq
                              have eP := hP.eq
                              obtain ⟨v1039, c1040⟩ : ∃ v, I1010 a0 10 = v := ⟨_, rfl⟩
                              have b1041 := iv15_10 hS1019.1 ta0 c1040
                              obtain ⟨v1042, c1043⟩ : ∃ v, I1010 a0 11 = v := ⟨_, rfl⟩
                              obtain ⟨y1044, c1045⟩ : ∃ v, L1012 a0 15 = v := ⟨_, rfl⟩
                              obtain ⟨v1046, c1047⟩ : ∃ v, I1010 a0 12 = v := ⟨_, rfl⟩
                              exact tr_vret hZ dX12_readTurner_235 rfl (by decide) (by decide) (hq _ _ _ ⟨hS1019, (Or.inr (⟨(by (try rw [w76]); first | done | omega), (by (try rw [w76]); (try rw [c1028]); first | done | omega), (by (try rw [w76]); (try rw [c1031]); first | done | omega), (by (try rw [w76]); (try rw [c1033]); first | done | omega), trivial⟩)), trivial⟩)
                          · skip
                            exfalso; omega
                      · skip
                        obtain ⟨v1048, c1049⟩ : ∃ v, I478 a0 9 = v := ⟨_, rfl⟩
                        have b1050 := iv15_9 hS486.1 ta0 c1049
                        rw [c1049] at p512
                        obtain ⟨v1051, c1052⟩ : ∃ v, I478 a0 13 = v := ⟨_, rfl⟩
                        rw [c1052] at p513
                        obtain ⟨v1053, c1054⟩ : ∃ v, I478 a0 14 = v := ⟨_, rfl⟩
                        rw [c1054] at p514
                        refine tr_istore dX12_readTurner_186 (by decide) (by decide) ?_
                        refine tr_iload dX12_readTurner_188 hl417 ?_
                        refine tr_iload dX12_readTurner_190 rfl ?_
                        refine q_callSi hE (M' := mX12_has) (as := [_, _]) dX12_readTurner_192 lk12_329 inX12_has myX12_has ⟨by decide, by decide⟩ rfl (Nat.le_of_ble_eq_true rfl) rfl rfl (by decide) (by decide) (k_X12_has hS486.1 ) ?_
                        rintro v1059 cn' K' N' I1055 R1056 L1057 ⟨rfl, rfl, rfl, rfl, rfl, rfl, h1060, -⟩
                        refine q_if_eq 203 dX12_readTurner_195 (by decide) (fun h1061 => ?_) (fun h1061 => ?_)
                        · skip
                          refine tr_aload_n dX12_readTurner_203 hl410 ?_
                          refine q_callVv hE (M' := mX12_goesOn) (as := []) dX12_readTurner_204 lk12_142 inX12_goesOn seX12_goesOn myX12_goesOn (by decide) ⟨by decide, by decide⟩ rfl (kR15 hS486.1 ta0) (Nat.le_of_ble_eq_true rfl) rfl rfl (by decide) (by decide) (k_X12_goesOn hS486.1 ta0) ?_
                          rintro cn' K' N' I1062 R1063 L1064 ⟨rfl, rfl, rfl, rfl, g1065, p1067, p1068, p1069, w1070, -⟩
                          have hS1071 := hS486.tr g1065 (by decide +kernel) (by decide +kernel)
                          have c1072 : I1062 a1 4 = v429 := (g1065.cell ta1 (by decide +kernel)).trans c487
                          have c1073 : I1062 a0 13 = v1051 := (g1065.cell ta0 (by decide +kernel)).trans c1052
                          have c1074 : I1062 a0 14 = v1053 := (g1065.cell ta0 (by decide +kernel)).trans c1054
                          obtain ⟨v1075, c1076⟩ : ∃ v, I1062 a0 9 = v := ⟨_, rfl⟩
                          have b1077 := iv15_9 hS1071.1 ta0 c1076
                          rw [c1049] at p1067
                          rw [c1076] at p1067
                          rw [c1049] at p1068
                          rw [c1076] at p1068
                          obtain ⟨v1078, c1079⟩ : ∃ v, I1062 a0 8 = v := ⟨_, rfl⟩
                          have b1080 := iv15_8 hS1071.1 ta0 c1079
                          rw [c1079] at p1069
                          rw [c491] at p1069
                          rw [c1073] at p1069
                          rw [c1052] at p1069
                          have ov1081 := w1070.over (by rw [c1049]; omega)
                          obtain ⟨v1082, c1083⟩ : ∃ v, I1062 a0 9 = v := ⟨_, rfl⟩
                          have b1084 := iv15_9 hS1071.1 ta0 c1083
                          obtain ⟨v1085, c1086⟩ : ∃ v, I1062 a0 13 = v := ⟨_, rfl⟩
                          obtain ⟨v1087, c1088⟩ : ∃ v, I1062 a0 14 = v := ⟨_, rfl⟩
                          (try rw [c1083] at ov1081)
                          (try rw [c1086] at ov1081)
                          (try rw [c1088] at ov1081)
                          (try rw [c1049] at ov1081)
                          (try rw [c1052] at ov1081)
                          (try rw [c1054] at ov1081)
                          refine tr_iload dX12_readTurner_207 hl417 ?_
                          refine q_iconst dX12_readTurner_209 (by decide) ?_
                          intro v1089 h1090
                          refine tr_iload dX12_readTurner_210 rfl ?_
                          refine q_ishlE dX12_readTurner_212 (by omega) (by omega) ?_
                          intro v1091 h1092
                          refine q_ior dX12_readTurner_213 ?_
                          intro v1093
                          refine tr_istore dX12_readTurner_214 (by decide) (by decide) ?_
                          refine tr_aload_n dX12_readTurner_216 hl410 ?_
                          refine q_bipush dX12_readTurner_217 (by decide +kernel) ?_
                          intro v1094 h1095
                          refine q_callVi hE (M' := mX12_eatsSign) (as := [_]) dX12_readTurner_219 lk12_221 inX12_eatsSign seX12_eatsSign myX12_eatsSign (by decide) ⟨by decide, by decide⟩ rfl (kR15 hS1071.1 ta0) (Nat.le_of_ble_eq_true rfl) rfl rfl (by decide) (by decide) (k_X12_eatsSign hS1071.1 ta0) ?_
                          rintro v1100 cn' K' N' I1096 R1097 L1098 ⟨rfl, rfl, rfl, rfl, g1099, h1101, p1102, p1103, w1104, -⟩
                          have hS1105 := hS1071.tr g1099 (by decide +kernel) (by decide +kernel)
                          have c1106 : I1096 a1 4 = v429 := (g1099.cell ta1 (by decide +kernel)).trans c1072
                          have c1107 : I1096 a0 13 = v1085 := (g1099.cell ta0 (by decide +kernel)).trans c1086
                          have c1108 : I1096 a0 14 = v1087 := (g1099.cell ta0 (by decide +kernel)).trans c1088
                          rw [c1083] at p1102
                          obtain ⟨v1109, c1110⟩ : ∃ v, I1096 a0 8 = v := ⟨_, rfl⟩
                          have b1111 := iv15_8 hS1105.1 ta0 c1110
                          rw [c1110] at p1103
                          rw [c1079] at p1103
                          have ov1112 := w1104.over (by rw [c1083]; omega)
                          obtain ⟨v1113, c1114⟩ : ∃ v, I1096 a0 9 = v := ⟨_, rfl⟩
                          have b1115 := iv15_9 hS1105.1 ta0 c1114
                          obtain ⟨v1116, c1117⟩ : ∃ v, I1096 a0 13 = v := ⟨_, rfl⟩
                          obtain ⟨v1118, c1119⟩ : ∃ v, I1096 a0 14 = v := ⟨_, rfl⟩
                          (try rw [c1114] at ov1112)
                          (try rw [c1117] at ov1112)
                          (try rw [c1119] at ov1112)
                          (try rw [c1083] at ov1112)
                          (try rw [c1086] at ov1112)
                          (try rw [c1088] at ov1112)
                          refine tr_istore dX12_readTurner_222 (by decide) (by decide) ?_
                          refine tr_goto 159 dX12_readTurner_224 (by decide) ?_
                          refine tr_iload dX12_readTurner_159 rfl ?_
                          refine q_if_eq 227 dX12_readTurner_161 (by decide) (fun h1120 => ?_) (fun h1120 => ?_)
                          · skip
                            refine tr_aload_n dX12_readTurner_227 hl410 ?_
                            refine q_getI dX12_readTurner_228 fl12_99 (kR15 hS1105.1 ta0) c1114 ?_
                            refine q_iconst dX12_readTurner_231 (by decide) ?_
                            intro v1121 h1122
                            refine q_icmp_ne 236 dX12_readTurner_232 (by decide) (fun h1123 => ?_) (fun h1123 => ?_)
                            · skip
                              exfalso; omega
                            · skip
                              have u1124 : huF gB gQ 901 0 (tkN gB (tkN gB (tkN gB (tkN gB (tkN gB (tkN gB (tkN gB (tkN gB (tkN gB (tkN gB (tkN gB (tkN gB gs)))))))))))) = v1116.toInt := by rw [← g443]; simp only [huF, ↓reduceIte]; repeat' (first | split | omega)
                              have u1124p : huP gB gQ 901 0 (tkN gB (tkN gB (tkN gB (tkN gB (tkN gB (tkN gB (tkN gB (tkN gB (tkN gB (tkN gB (tkN gB (tkN gB gs)))))))))))) = v1118.toInt := by rw [← g444]; simp only [huP, ↓reduceIte]; repeat' (first | split | omega)
                              have eF := hF.eq
                              have eP := hP.eq
                              obtain ⟨v1125, c1126⟩ : ∃ v, I1096 a0 10 = v := ⟨_, rfl⟩
                              have b1127 := iv15_10 hS1105.1 ta0 c1126
                              obtain ⟨v1128, c1129⟩ : ∃ v, I1096 a0 11 = v := ⟨_, rfl⟩
                              obtain ⟨y1130, c1131⟩ : ∃ v, L1098 a0 15 = v := ⟨_, rfl⟩
                              obtain ⟨v1132, c1133⟩ : ∃ v, I1096 a0 12 = v := ⟨_, rfl⟩
                              exact tr_vret hZ dX12_readTurner_235 rfl (by decide) (by decide) (hq _ _ _ ⟨hS1105, (Or.inr (⟨(by (try rw [w76]); first | done | omega), (by (try rw [w76]); (try rw [c1114]); first | done | omega), (by (try rw [w76]); (try rw [c1117]); first | done | omega), (by (try rw [w76]); (try rw [c1119]); first | done | omega), trivial⟩)), trivial⟩)
                          · skip
                            exfalso; omega
                        · skip
                          refine tr_aload_n dX12_readTurner_198 hl410 ?_
                          refine q_iconst dX12_readTurner_199 (by decide) ?_
                          intro v1134 h1135
                          refine q_callVv hE (M' := mX12_flaw) (as := [_]) dX12_readTurner_200 lk12_145 inX12_flaw seX12_flaw myX12_flaw (by decide) ⟨by decide, by decide⟩ rfl (kR15 hS486.1 ta0) (Nat.le_of_ble_eq_true rfl) rfl rfl (by decide) (by decide) (k_X12_flaw hS486.1 ta0 (by omega)) ?_
                          rintro cn' K' N' I1136 R1137 L1138 ⟨rfl, rfl, rfl, rfl, rfl, g1139, p1141, p1142, w1143, -⟩
                          have hS1144 := hS486.tr g1139 (by decide +kernel) (by decide +kernel)
                          have c1145 : I1136 a1 4 = v429 := (g1139.cell ta1 (by decide +kernel)).trans c487
                          have c1146 : I1136 a0 10 = v433 := (g1139.cell ta0 (by decide +kernel)).trans c488
                          have c1147 : I1136 a0 11 = v435 := (g1139.cell ta0 (by decide +kernel)).trans c489
                          have c1148 : I1136 a0 12 = v439 := (g1139.cell ta0 (by decide +kernel)).trans c490
                          have c1149 : I1136 a0 8 = v441 := (g1139.cell ta0 (by decide +kernel)).trans c491
                          obtain ⟨v1150, c1151⟩ : ∃ v, I1136 a0 9 = v := ⟨_, rfl⟩
                          have b1152 := iv15_9 hS1144.1 ta0 c1151
                          rw [c1151] at p1141
                          rw [c1149] at p1142
                          rw [c491] at p1142
                          have ov1153 := w1143.over (by rw [c1049]; omega)
                          obtain ⟨v1154, c1155⟩ : ∃ v, I1136 a0 9 = v := ⟨_, rfl⟩
                          have b1156 := iv15_9 hS1144.1 ta0 c1155
                          obtain ⟨v1157, c1158⟩ : ∃ v, I1136 a0 13 = v := ⟨_, rfl⟩
                          obtain ⟨v1159, c1160⟩ : ∃ v, I1136 a0 14 = v := ⟨_, rfl⟩
                          (try rw [c1155] at ov1153)
                          (try rw [c1158] at ov1153)
                          (try rw [c1160] at ov1153)
                          (try rw [c1049] at ov1153)
                          (try rw [c1052] at ov1153)
                          (try rw [c1054] at ov1153)
                          refine tr_aload_n dX12_readTurner_203 hl410 ?_
                          refine q_callVv hE (M' := mX12_goesOn) (as := []) dX12_readTurner_204 lk12_142 inX12_goesOn seX12_goesOn myX12_goesOn (by decide) ⟨by decide, by decide⟩ rfl (kR15 hS1144.1 ta0) (Nat.le_of_ble_eq_true rfl) rfl rfl (by decide) (by decide) (k_X12_goesOn hS1144.1 ta0) ?_
                          rintro cn' K' N' I1161 R1162 L1163 ⟨rfl, rfl, rfl, rfl, g1164, p1166, p1167, p1168, w1169, -⟩
                          have hS1170 := hS1144.tr g1164 (by decide +kernel) (by decide +kernel)
                          have c1171 : I1161 a1 4 = v429 := (g1164.cell ta1 (by decide +kernel)).trans c1145
                          have c1172 : I1161 a0 13 = v1157 := (g1164.cell ta0 (by decide +kernel)).trans c1158
                          have c1173 : I1161 a0 14 = v1159 := (g1164.cell ta0 (by decide +kernel)).trans c1160
                          obtain ⟨v1174, c1175⟩ : ∃ v, I1161 a0 9 = v := ⟨_, rfl⟩
                          have b1176 := iv15_9 hS1170.1 ta0 c1175
                          rw [c1155] at p1166
                          rw [c1175] at p1166
                          rw [c1155] at p1167
                          rw [c1175] at p1167
                          obtain ⟨v1177, c1178⟩ : ∃ v, I1161 a0 8 = v := ⟨_, rfl⟩
                          have b1179 := iv15_8 hS1170.1 ta0 c1178
                          rw [c1178] at p1168
                          rw [c1149] at p1168
                          rw [c1172] at p1168
                          rw [c1158] at p1168
                          have ov1180 := w1169.over (by rw [c1155]; omega)
                          obtain ⟨v1181, c1182⟩ : ∃ v, I1161 a0 9 = v := ⟨_, rfl⟩
                          have b1183 := iv15_9 hS1170.1 ta0 c1182
                          obtain ⟨v1184, c1185⟩ : ∃ v, I1161 a0 13 = v := ⟨_, rfl⟩
                          obtain ⟨v1186, c1187⟩ : ∃ v, I1161 a0 14 = v := ⟨_, rfl⟩
                          (try rw [c1182] at ov1180)
                          (try rw [c1185] at ov1180)
                          (try rw [c1187] at ov1180)
                          (try rw [c1155] at ov1180)
                          (try rw [c1158] at ov1180)
                          (try rw [c1160] at ov1180)
                          refine tr_iload dX12_readTurner_207 hl417 ?_
                          refine q_iconst dX12_readTurner_209 (by decide) ?_
                          intro v1188 h1189
                          refine tr_iload dX12_readTurner_210 rfl ?_
                          refine q_ishlE dX12_readTurner_212 (by omega) (by omega) ?_
                          intro v1190 h1191
                          refine q_ior dX12_readTurner_213 ?_
                          intro v1192
                          refine tr_istore dX12_readTurner_214 (by decide) (by decide) ?_
                          refine tr_aload_n dX12_readTurner_216 hl410 ?_
                          refine q_bipush dX12_readTurner_217 (by decide +kernel) ?_
                          intro v1193 h1194
                          refine q_callVi hE (M' := mX12_eatsSign) (as := [_]) dX12_readTurner_219 lk12_221 inX12_eatsSign seX12_eatsSign myX12_eatsSign (by decide) ⟨by decide, by decide⟩ rfl (kR15 hS1170.1 ta0) (Nat.le_of_ble_eq_true rfl) rfl rfl (by decide) (by decide) (k_X12_eatsSign hS1170.1 ta0) ?_
                          rintro v1199 cn' K' N' I1195 R1196 L1197 ⟨rfl, rfl, rfl, rfl, g1198, h1200, p1201, p1202, w1203, -⟩
                          have hS1204 := hS1170.tr g1198 (by decide +kernel) (by decide +kernel)
                          have c1205 : I1195 a1 4 = v429 := (g1198.cell ta1 (by decide +kernel)).trans c1171
                          have c1206 : I1195 a0 13 = v1184 := (g1198.cell ta0 (by decide +kernel)).trans c1185
                          have c1207 : I1195 a0 14 = v1186 := (g1198.cell ta0 (by decide +kernel)).trans c1187
                          rw [c1182] at p1201
                          obtain ⟨v1208, c1209⟩ : ∃ v, I1195 a0 8 = v := ⟨_, rfl⟩
                          have b1210 := iv15_8 hS1204.1 ta0 c1209
                          rw [c1209] at p1202
                          rw [c1178] at p1202
                          have ov1211 := w1203.over (by rw [c1182]; omega)
                          obtain ⟨v1212, c1213⟩ : ∃ v, I1195 a0 9 = v := ⟨_, rfl⟩
                          have b1214 := iv15_9 hS1204.1 ta0 c1213
                          obtain ⟨v1215, c1216⟩ : ∃ v, I1195 a0 13 = v := ⟨_, rfl⟩
                          obtain ⟨v1217, c1218⟩ : ∃ v, I1195 a0 14 = v := ⟨_, rfl⟩
                          (try rw [c1213] at ov1211)
                          (try rw [c1216] at ov1211)
                          (try rw [c1218] at ov1211)
                          (try rw [c1182] at ov1211)
                          (try rw [c1185] at ov1211)
                          (try rw [c1187] at ov1211)
                          refine tr_istore dX12_readTurner_222 (by decide) (by decide) ?_
                          refine tr_goto 159 dX12_readTurner_224 (by decide) ?_
                          refine tr_iload dX12_readTurner_159 rfl ?_
                          refine q_if_eq 227 dX12_readTurner_161 (by decide) (fun h1219 => ?_) (fun h1219 => ?_)
                          · skip
                            refine tr_aload_n dX12_readTurner_227 hl410 ?_
                            refine q_getI dX12_readTurner_228 fl12_99 (kR15 hS1204.1 ta0) c1213 ?_
                            refine q_iconst dX12_readTurner_231 (by decide) ?_
                            intro v1220 h1221
                            refine q_icmp_ne 236 dX12_readTurner_232 (by decide) (fun h1222 => ?_) (fun h1222 => ?_)
                            · skip
                              exfalso; omega
                            · skip
                              have u1223 : huF gB gQ 901 0 (tkN gB (tkN gB (tkN gB (tkN gB (tkN gB (tkN gB (tkN gB (tkN gB (tkN gB (tkN gB (tkN gB (tkN gB gs)))))))))))) = v1215.toInt := by rw [← g443]; simp only [huF, ↓reduceIte]; repeat' (first | split | omega)
                              have u1223p : huP gB gQ 901 0 (tkN gB (tkN gB (tkN gB (tkN gB (tkN gB (tkN gB (tkN gB (tkN gB (tkN gB (tkN gB (tkN gB (tkN gB gs)))))))))))) = v1217.toInt := by rw [← g444]; simp only [huP, ↓reduceIte]; repeat' (first | split | omega)
                              have eF := hF.eq
                              have eP := hP.eq
                              obtain ⟨v1224, c1225⟩ : ∃ v, I1195 a0 10 = v := ⟨_, rfl⟩
                              have b1226 := iv15_10 hS1204.1 ta0 c1225
                              obtain ⟨v1227, c1228⟩ : ∃ v, I1195 a0 11 = v := ⟨_, rfl⟩
                              obtain ⟨y1229, c1230⟩ : ∃ v, L1197 a0 15 = v := ⟨_, rfl⟩
                              obtain ⟨v1231, c1232⟩ : ∃ v, I1195 a0 12 = v := ⟨_, rfl⟩
                              exact tr_vret hZ dX12_readTurner_235 rfl (by decide) (by decide) (hq _ _ _ ⟨hS1204, (Or.inr (⟨(by (try rw [w76]); first | done | omega), (by (try rw [w76]); (try rw [c1213]); first | done | omega), (by (try rw [w76]); (try rw [c1216]); first | done | omega), (by (try rw [w76]); (try rw [c1218]); first | done | omega), trivial⟩)), trivial⟩)
                          · skip
                            exfalso; omega
            exact lp460 _ _ v404 v406 I360 L362 ((tkN gB (tkN gB (tkN gB (tkN gB (tkN gB (tkN gB (tkN gB (tkN gB (tkN gB (tkN gB (tkN gB (tkN gB gs))))))))))))) (901) (0) v387 v45 v389 v392 v395 y397 v399 v401 hl0 hl1 hl3 rfl rfl rfl rfl rfl rfl hS368 hL385 hM386 c388 c369 c390 c393 c396 c398 c400 c402 (by first | rfl | (congr 1; omega) | (congr 2 <;> omega)) (by first | rfl | (congr 1; omega) | (congr 2 <;> omega)) (by first | rfl | (congr 1; omega) | (congr 2 <;> omega)) (by omega) (by omega) (by omega) (by omega) (by omega) (by omega) (by omega) (by omega) (by omega) (by omega) (by omega) (by assumption) (by assumption) (by assumption) (Nat.lt_succ_self _)
          · skip
            obtain ⟨v1233, c1234⟩ : ∃ v, I360 a0 9 = v := ⟨_, rfl⟩
            have b1235 := iv15_9 hS368.1 ta0 c1234
            rw [c1234] at p382
            obtain ⟨v1236, c1237⟩ : ∃ v, I360 a0 13 = v := ⟨_, rfl⟩
            rw [c1237] at p383
            obtain ⟨v1238, c1239⟩ : ∃ v, I360 a0 14 = v := ⟨_, rfl⟩
            rw [c1239] at p384
            replace hF := hF.pos (by omega)
            replace hP := hP.pos (by omega)
            refine q_iconst dX12_readTurner_153 (by decide) ?_
            intro v1240 h1241
            refine tr_istore dX12_readTurner_154 (by decide) (by decide) ?_
            refine q_iconst dX12_readTurner_156 (by decide) ?_
            intro v1242 h1243
            refine tr_istore dX12_readTurner_157 (by decide) (by decide) ?_
            refine tr_iload dX12_readTurner_159 rfl ?_
            refine q_if_eq 227 dX12_readTurner_161 (by decide) (fun h1244 => ?_) (fun h1244 => ?_)
            · skip
              exfalso; omega
            · skip
              refine tr_aload_n dX12_readTurner_164 hl0 ?_
              refine q_getI dX12_readTurner_165 fl12_99 (kR15 hS368.1 ta0) c1234 ?_
              refine q_iconst dX12_readTurner_168 (by decide) ?_
              intro v1245 h1246
              refine q_icmp_eq 227 dX12_readTurner_169 (by decide) (fun h1247 => ?_) (fun h1247 => ?_)
              · skip
                refine tr_aload_n dX12_readTurner_227 hl0 ?_
                refine q_getI dX12_readTurner_228 fl12_99 (kR15 hS368.1 ta0) c1234 ?_
                refine q_iconst dX12_readTurner_231 (by decide) ?_
                intro v1248 h1249
                refine q_icmp_ne 236 dX12_readTurner_232 (by decide) (fun h1250 => ?_) (fun h1250 => ?_)
                · skip
                  exfalso; omega
                · skip
                  have eF := hF.eq
                  have eP := hP.eq
                  obtain ⟨v1251, c1252⟩ : ∃ v, I360 a0 10 = v := ⟨_, rfl⟩
                  have b1253 := iv15_10 hS368.1 ta0 c1252
                  obtain ⟨v1254, c1255⟩ : ∃ v, I360 a0 11 = v := ⟨_, rfl⟩
                  obtain ⟨y1256, c1257⟩ : ∃ v, L362 a0 15 = v := ⟨_, rfl⟩
                  obtain ⟨v1258, c1259⟩ : ∃ v, I360 a0 12 = v := ⟨_, rfl⟩
                  obtain ⟨v1260, c1261⟩ : ∃ v, I360 a0 8 = v := ⟨_, rfl⟩
                  have b1262 := iv15_8 hS368.1 ta0 c1261
                  exact tr_vret hZ dX12_readTurner_235 rfl (by decide) (by decide) (hq _ _ _ ⟨hS368, (Or.inr (⟨(by (try rw [w76]); first | done | omega), (by (try rw [w76]); (try rw [c1234]); first | done | omega), (by (try rw [w76]); (try rw [c1237]); first | done | omega), (by (try rw [w76]); (try rw [c1239]); first | done | omega), trivial⟩)), trivial⟩)
              · skip
                exfalso; omega
        · skip
          obtain ⟨v1263, c1264⟩ : ∃ v, I296 a0 9 = v := ⟨_, rfl⟩
          have b1265 := iv15_9 hS304.1 ta0 c1264
          rw [c1264] at p323
          obtain ⟨v1266, c1267⟩ : ∃ v, I296 a0 13 = v := ⟨_, rfl⟩
          rw [c1267] at p324
          obtain ⟨v1268, c1269⟩ : ∃ v, I296 a0 14 = v := ⟨_, rfl⟩
          rw [c1269] at p325
          replace hF := hF.pos (by omega)
          replace hP := hP.pos (by omega)
          refine tr_istore dX12_readTurner_145 (by decide) (by decide) ?_
          refine tr_aload_n dX12_readTurner_147 hl0 ?_
          refine tr_ldcS dX12_readTurner_148 ld12_253 ?_
          refine q_callVv hE (M' := mX12_needs) (as := [_]) dX12_readTurner_150 lk12_157 inX12_needs seX12_needs myX12_needs (by decide) ⟨by decide, by decide⟩ rfl (kR15 hS304.1 ta0) (Nat.le_of_ble_eq_true rfl) rfl rfl (by decide) (by decide) (k_X12_needs hS304.1 ta0 (by decide)) ?_
          rintro cn' K' N' I1270 R1271 L1272 ⟨rfl, rfl, rfl, rfl, g1273, w1275, -⟩
          have hS1276 := hS304.tr g1273 (by decide +kernel) (by decide +kernel)
          have c1277 : I1270 a1 4 = v45 := (g1273.cell ta1 (by decide +kernel)).trans c305
          have ov1278 := w1275.over (by rw [c1264]; omega)
          obtain ⟨v1279, c1280⟩ : ∃ v, I1270 a0 9 = v := ⟨_, rfl⟩
          have b1281 := iv15_9 hS1276.1 ta0 c1280
          obtain ⟨v1282, c1283⟩ : ∃ v, I1270 a0 13 = v := ⟨_, rfl⟩
          obtain ⟨v1284, c1285⟩ : ∃ v, I1270 a0 14 = v := ⟨_, rfl⟩
          (try rw [c1280] at ov1278)
          (try rw [c1283] at ov1278)
          (try rw [c1285] at ov1278)
          (try rw [c1264] at ov1278)
          (try rw [c1267] at ov1278)
          (try rw [c1269] at ov1278)
          refine q_iconst dX12_readTurner_153 (by decide) ?_
          intro v1286 h1287
          refine tr_istore dX12_readTurner_154 (by decide) (by decide) ?_
          refine q_iconst dX12_readTurner_156 (by decide) ?_
          intro v1288 h1289
          refine tr_istore dX12_readTurner_157 (by decide) (by decide) ?_
          refine tr_iload dX12_readTurner_159 rfl ?_
          refine q_if_eq 227 dX12_readTurner_161 (by decide) (fun h1290 => ?_) (fun h1290 => ?_)
          · skip
            exfalso; omega
          · skip
            refine tr_aload_n dX12_readTurner_164 hl0 ?_
            refine q_getI dX12_readTurner_165 fl12_99 (kR15 hS1276.1 ta0) c1280 ?_
            refine q_iconst dX12_readTurner_168 (by decide) ?_
            intro v1291 h1292
            refine q_icmp_eq 227 dX12_readTurner_169 (by decide) (fun h1293 => ?_) (fun h1293 => ?_)
            · skip
              refine tr_aload_n dX12_readTurner_227 hl0 ?_
              refine q_getI dX12_readTurner_228 fl12_99 (kR15 hS1276.1 ta0) c1280 ?_
              refine q_iconst dX12_readTurner_231 (by decide) ?_
              intro v1294 h1295
              refine q_icmp_ne 236 dX12_readTurner_232 (by decide) (fun h1296 => ?_) (fun h1296 => ?_)
              · skip
                exfalso; omega
              · skip
                have eF := hF.eq
                have eP := hP.eq
                obtain ⟨v1297, c1298⟩ : ∃ v, I1270 a0 10 = v := ⟨_, rfl⟩
                have b1299 := iv15_10 hS1276.1 ta0 c1298
                obtain ⟨v1300, c1301⟩ : ∃ v, I1270 a0 11 = v := ⟨_, rfl⟩
                obtain ⟨y1302, c1303⟩ : ∃ v, L1272 a0 15 = v := ⟨_, rfl⟩
                obtain ⟨v1304, c1305⟩ : ∃ v, I1270 a0 12 = v := ⟨_, rfl⟩
                obtain ⟨v1306, c1307⟩ : ∃ v, I1270 a0 8 = v := ⟨_, rfl⟩
                have b1308 := iv15_8 hS1276.1 ta0 c1307
                exact tr_vret hZ dX12_readTurner_235 rfl (by decide) (by decide) (hq _ _ _ ⟨hS1276, (Or.inr (⟨(by (try rw [w76]); first | done | omega), (by (try rw [w76]); (try rw [c1280]); first | done | omega), (by (try rw [w76]); (try rw [c1283]); first | done | omega), (by (try rw [w76]); (try rw [c1285]); first | done | omega), trivial⟩)), trivial⟩)
            · skip
              exfalso; omega
        · skip
          obtain ⟨v1309, c1310⟩ : ∃ v, I296 a0 9 = v := ⟨_, rfl⟩
          have b1311 := iv15_9 hS304.1 ta0 c1310
          rw [c1310] at p330
          obtain ⟨v1312, c1313⟩ : ∃ v, I296 a0 13 = v := ⟨_, rfl⟩
          rw [c1313] at p331
          obtain ⟨v1314, c1315⟩ : ∃ v, I296 a0 14 = v := ⟨_, rfl⟩
          rw [c1315] at p332
          replace hF := hF.neg (by omega)
          replace hP := hP.neg (by omega)
          replace hF := hF.pos (by omega)
          replace hP := hP.pos (by omega)
          refine tr_istore dX12_readTurner_145 (by decide) (by decide) ?_
          refine tr_aload_n dX12_readTurner_147 hl0 ?_
          refine tr_ldcS dX12_readTurner_148 ld12_253 ?_
          refine q_callVv hE (M' := mX12_needs) (as := [_]) dX12_readTurner_150 lk12_157 inX12_needs seX12_needs myX12_needs (by decide) ⟨by decide, by decide⟩ rfl (kR15 hS304.1 ta0) (Nat.le_of_ble_eq_true rfl) rfl rfl (by decide) (by decide) (k_X12_needs hS304.1 ta0 (by decide)) ?_
          rintro cn' K' N' I1316 R1317 L1318 ⟨rfl, rfl, rfl, rfl, g1319, w1321, -⟩
          have hS1322 := hS304.tr g1319 (by decide +kernel) (by decide +kernel)
          have c1323 : I1316 a1 4 = v45 := (g1319.cell ta1 (by decide +kernel)).trans c305
          have ov1324 := w1321.over (by rw [c1310]; omega)
          obtain ⟨v1325, c1326⟩ : ∃ v, I1316 a0 9 = v := ⟨_, rfl⟩
          have b1327 := iv15_9 hS1322.1 ta0 c1326
          obtain ⟨v1328, c1329⟩ : ∃ v, I1316 a0 13 = v := ⟨_, rfl⟩
          obtain ⟨v1330, c1331⟩ : ∃ v, I1316 a0 14 = v := ⟨_, rfl⟩
          (try rw [c1326] at ov1324)
          (try rw [c1329] at ov1324)
          (try rw [c1331] at ov1324)
          (try rw [c1310] at ov1324)
          (try rw [c1313] at ov1324)
          (try rw [c1315] at ov1324)
          refine q_iconst dX12_readTurner_153 (by decide) ?_
          intro v1332 h1333
          refine tr_istore dX12_readTurner_154 (by decide) (by decide) ?_
          refine q_iconst dX12_readTurner_156 (by decide) ?_
          intro v1334 h1335
          refine tr_istore dX12_readTurner_157 (by decide) (by decide) ?_
          refine tr_iload dX12_readTurner_159 rfl ?_
          refine q_if_eq 227 dX12_readTurner_161 (by decide) (fun h1336 => ?_) (fun h1336 => ?_)
          · skip
            exfalso; omega
          · skip
            refine tr_aload_n dX12_readTurner_164 hl0 ?_
            refine q_getI dX12_readTurner_165 fl12_99 (kR15 hS1322.1 ta0) c1326 ?_
            refine q_iconst dX12_readTurner_168 (by decide) ?_
            intro v1337 h1338
            refine q_icmp_eq 227 dX12_readTurner_169 (by decide) (fun h1339 => ?_) (fun h1339 => ?_)
            · skip
              refine tr_aload_n dX12_readTurner_227 hl0 ?_
              refine q_getI dX12_readTurner_228 fl12_99 (kR15 hS1322.1 ta0) c1326 ?_
              refine q_iconst dX12_readTurner_231 (by decide) ?_
              intro v1340 h1341
              refine q_icmp_ne 236 dX12_readTurner_232 (by decide) (fun h1342 => ?_) (fun h1342 => ?_)
              · skip
                exfalso; omega
              · skip
                have eF := hF.eq
                have eP := hP.eq
                obtain ⟨v1343, c1344⟩ : ∃ v, I1316 a0 10 = v := ⟨_, rfl⟩
                have b1345 := iv15_10 hS1322.1 ta0 c1344
                obtain ⟨v1346, c1347⟩ : ∃ v, I1316 a0 11 = v := ⟨_, rfl⟩
                obtain ⟨y1348, c1349⟩ : ∃ v, L1318 a0 15 = v := ⟨_, rfl⟩
                obtain ⟨v1350, c1351⟩ : ∃ v, I1316 a0 12 = v := ⟨_, rfl⟩
                obtain ⟨v1352, c1353⟩ : ∃ v, I1316 a0 8 = v := ⟨_, rfl⟩
                have b1354 := iv15_8 hS1322.1 ta0 c1353
                exact tr_vret hZ dX12_readTurner_235 rfl (by decide) (by decide) (hq _ _ _ ⟨hS1322, (Or.inr (⟨(by (try rw [w76]); first | done | omega), (by (try rw [w76]); (try rw [c1326]); first | done | omega), (by (try rw [w76]); (try rw [c1329]); first | done | omega), (by (try rw [w76]); (try rw [c1331]); first | done | omega), trivial⟩)), trivial⟩)
            · skip
              exfalso; omega
        · skip
          obtain ⟨v1355, c1356⟩ : ∃ v, I296 a0 9 = v := ⟨_, rfl⟩
          have b1357 := iv15_9 hS304.1 ta0 c1356
          rw [c1356] at p338
          obtain ⟨v1358, c1359⟩ : ∃ v, I296 a0 13 = v := ⟨_, rfl⟩
          rw [c1359] at p339
          obtain ⟨v1360, c1361⟩ : ∃ v, I296 a0 14 = v := ⟨_, rfl⟩
          rw [c1361] at p340
          replace hF := hF.neg (by omega)
          replace hP := hP.neg (by omega)
          replace hF := hF.neg (by omega)
          replace hP := hP.neg (by omega)
          replace hF := hF.pos (by omega)
          replace hP := hP.pos (by omega)
          refine tr_istore dX12_readTurner_145 (by decide) (by decide) ?_
          refine tr_aload_n dX12_readTurner_147 hl0 ?_
          refine tr_ldcS dX12_readTurner_148 ld12_253 ?_
          refine q_callVv hE (M' := mX12_needs) (as := [_]) dX12_readTurner_150 lk12_157 inX12_needs seX12_needs myX12_needs (by decide) ⟨by decide, by decide⟩ rfl (kR15 hS304.1 ta0) (Nat.le_of_ble_eq_true rfl) rfl rfl (by decide) (by decide) (k_X12_needs hS304.1 ta0 (by decide)) ?_
          rintro cn' K' N' I1362 R1363 L1364 ⟨rfl, rfl, rfl, rfl, g1365, w1367, -⟩
          have hS1368 := hS304.tr g1365 (by decide +kernel) (by decide +kernel)
          have c1369 : I1362 a1 4 = v45 := (g1365.cell ta1 (by decide +kernel)).trans c305
          have ov1370 := w1367.over (by rw [c1356]; omega)
          obtain ⟨v1371, c1372⟩ : ∃ v, I1362 a0 9 = v := ⟨_, rfl⟩
          have b1373 := iv15_9 hS1368.1 ta0 c1372
          obtain ⟨v1374, c1375⟩ : ∃ v, I1362 a0 13 = v := ⟨_, rfl⟩
          obtain ⟨v1376, c1377⟩ : ∃ v, I1362 a0 14 = v := ⟨_, rfl⟩
          (try rw [c1372] at ov1370)
          (try rw [c1375] at ov1370)
          (try rw [c1377] at ov1370)
          (try rw [c1356] at ov1370)
          (try rw [c1359] at ov1370)
          (try rw [c1361] at ov1370)
          refine q_iconst dX12_readTurner_153 (by decide) ?_
          intro v1378 h1379
          refine tr_istore dX12_readTurner_154 (by decide) (by decide) ?_
          refine q_iconst dX12_readTurner_156 (by decide) ?_
          intro v1380 h1381
          refine tr_istore dX12_readTurner_157 (by decide) (by decide) ?_
          refine tr_iload dX12_readTurner_159 rfl ?_
          refine q_if_eq 227 dX12_readTurner_161 (by decide) (fun h1382 => ?_) (fun h1382 => ?_)
          · skip
            exfalso; omega
          · skip
            refine tr_aload_n dX12_readTurner_164 hl0 ?_
            refine q_getI dX12_readTurner_165 fl12_99 (kR15 hS1368.1 ta0) c1372 ?_
            refine q_iconst dX12_readTurner_168 (by decide) ?_
            intro v1383 h1384
            refine q_icmp_eq 227 dX12_readTurner_169 (by decide) (fun h1385 => ?_) (fun h1385 => ?_)
            · skip
              refine tr_aload_n dX12_readTurner_227 hl0 ?_
              refine q_getI dX12_readTurner_228 fl12_99 (kR15 hS1368.1 ta0) c1372 ?_
              refine q_iconst dX12_readTurner_231 (by decide) ?_
              intro v1386 h1387
              refine q_icmp_ne 236 dX12_readTurner_232 (by decide) (fun h1388 => ?_) (fun h1388 => ?_)
              · skip
                exfalso; omega
              · skip
                have eF := hF.eq
                have eP := hP.eq
                obtain ⟨v1389, c1390⟩ : ∃ v, I1362 a0 10 = v := ⟨_, rfl⟩
                have b1391 := iv15_10 hS1368.1 ta0 c1390
                obtain ⟨v1392, c1393⟩ : ∃ v, I1362 a0 11 = v := ⟨_, rfl⟩
                obtain ⟨y1394, c1395⟩ : ∃ v, L1364 a0 15 = v := ⟨_, rfl⟩
                obtain ⟨v1396, c1397⟩ : ∃ v, I1362 a0 12 = v := ⟨_, rfl⟩
                obtain ⟨v1398, c1399⟩ : ∃ v, I1362 a0 8 = v := ⟨_, rfl⟩
                have b1400 := iv15_8 hS1368.1 ta0 c1399
                exact tr_vret hZ dX12_readTurner_235 rfl (by decide) (by decide) (hq _ _ _ ⟨hS1368, (Or.inr (⟨(by (try rw [w76]); first | done | omega), (by (try rw [w76]); (try rw [c1372]); first | done | omega), (by (try rw [w76]); (try rw [c1375]); first | done | omega), (by (try rw [w76]); (try rw [c1377]); first | done | omega), trivial⟩)), trivial⟩)
            · skip
              exfalso; omega
      · skip
        obtain ⟨v1401, c1402⟩ : ∃ v, I228 a0 9 = v := ⟨_, rfl⟩
        have b1403 := iv15_9 hS236.1 ta0 c1402
        rw [c1402] at p255
        obtain ⟨v1404, c1405⟩ : ∃ v, I228 a0 13 = v := ⟨_, rfl⟩
        rw [c1405] at p256
        obtain ⟨v1406, c1407⟩ : ∃ v, I228 a0 14 = v := ⟨_, rfl⟩
        rw [c1407] at p257
        replace hF := hF.pos (by omega)
        replace hP := hP.pos (by omega)
        refine tr_istore dX12_readTurner_133 (by decide) (by decide) ?_
        refine tr_aload_n dX12_readTurner_135 hl0 ?_
        refine tr_ldcwS dX12_readTurner_136 ld12_327 ?_
        refine q_iconst dX12_readTurner_139 (by decide) ?_
        intro v1408 h1409
        refine q_bipush dX12_readTurner_140 (by decide +kernel) ?_
        intro v1410 h1411
        refine q_callVi hE (M' := mX12_readPart) (as := [_, _, _]) dX12_readTurner_142 lk12_249 inX12_readPart seX12_readPart myX12_readPart (by decide) ⟨by decide, by decide⟩ rfl (kR15 hS236.1 ta0) (Nat.le_of_ble_eq_true rfl) rfl rfl (by decide) (by decide) (k_X12_readPart hS236.1 ta0 (by decide)) ?_
        rintro v1416 cn' K' N' I1412 R1413 L1414 ⟨rfl, rfl, rfl, rfl, g1415, p1417, w1418, -⟩
        have hS1419 := hS236.tr g1415 (by decide +kernel) (by decide +kernel)
        have c1420 : I1412 a1 4 = v45 := (g1415.cell ta1 (by decide +kernel)).trans c237
        have b1421 : 1 ≤ v1416.toInt ∧ v1416.toInt ≤ 20 := by omega
        clear p1417
        have ov1422 := w1418.over (by rw [c1402]; omega)
        obtain ⟨v1423, c1424⟩ : ∃ v, I1412 a0 9 = v := ⟨_, rfl⟩
        have b1425 := iv15_9 hS1419.1 ta0 c1424
        obtain ⟨v1426, c1427⟩ : ∃ v, I1412 a0 13 = v := ⟨_, rfl⟩
        obtain ⟨v1428, c1429⟩ : ∃ v, I1412 a0 14 = v := ⟨_, rfl⟩
        (try rw [c1424] at ov1422)
        (try rw [c1427] at ov1422)
        (try rw [c1429] at ov1422)
        (try rw [c1402] at ov1422)
        (try rw [c1405] at ov1422)
        (try rw [c1407] at ov1422)
        refine tr_istore dX12_readTurner_145 (by decide) (by decide) ?_
        refine tr_aload_n dX12_readTurner_147 hl0 ?_
        refine tr_ldcS dX12_readTurner_148 ld12_253 ?_
        refine q_callVv hE (M' := mX12_needs) (as := [_]) dX12_readTurner_150 lk12_157 inX12_needs seX12_needs myX12_needs (by decide) ⟨by decide, by decide⟩ rfl (kR15 hS1419.1 ta0) (Nat.le_of_ble_eq_true rfl) rfl rfl (by decide) (by decide) (k_X12_needs hS1419.1 ta0 (by decide)) ?_
        rintro cn' K' N' I1430 R1431 L1432 ⟨rfl, rfl, rfl, rfl, g1433, w1435, -⟩
        have hS1436 := hS1419.tr g1433 (by decide +kernel) (by decide +kernel)
        have c1437 : I1430 a1 4 = v45 := (g1433.cell ta1 (by decide +kernel)).trans c1420
        have ov1438 := w1435.over (by rw [c1424]; omega)
        obtain ⟨v1439, c1440⟩ : ∃ v, I1430 a0 9 = v := ⟨_, rfl⟩
        have b1441 := iv15_9 hS1436.1 ta0 c1440
        obtain ⟨v1442, c1443⟩ : ∃ v, I1430 a0 13 = v := ⟨_, rfl⟩
        obtain ⟨v1444, c1445⟩ : ∃ v, I1430 a0 14 = v := ⟨_, rfl⟩
        (try rw [c1440] at ov1438)
        (try rw [c1443] at ov1438)
        (try rw [c1445] at ov1438)
        (try rw [c1424] at ov1438)
        (try rw [c1427] at ov1438)
        (try rw [c1429] at ov1438)
        refine q_iconst dX12_readTurner_153 (by decide) ?_
        intro v1446 h1447
        refine tr_istore dX12_readTurner_154 (by decide) (by decide) ?_
        refine q_iconst dX12_readTurner_156 (by decide) ?_
        intro v1448 h1449
        refine tr_istore dX12_readTurner_157 (by decide) (by decide) ?_
        refine tr_iload dX12_readTurner_159 rfl ?_
        refine q_if_eq 227 dX12_readTurner_161 (by decide) (fun h1450 => ?_) (fun h1450 => ?_)
        · skip
          exfalso; omega
        · skip
          refine tr_aload_n dX12_readTurner_164 hl0 ?_
          refine q_getI dX12_readTurner_165 fl12_99 (kR15 hS1436.1 ta0) c1440 ?_
          refine q_iconst dX12_readTurner_168 (by decide) ?_
          intro v1451 h1452
          refine q_icmp_eq 227 dX12_readTurner_169 (by decide) (fun h1453 => ?_) (fun h1453 => ?_)
          · skip
            refine tr_aload_n dX12_readTurner_227 hl0 ?_
            refine q_getI dX12_readTurner_228 fl12_99 (kR15 hS1436.1 ta0) c1440 ?_
            refine q_iconst dX12_readTurner_231 (by decide) ?_
            intro v1454 h1455
            refine q_icmp_ne 236 dX12_readTurner_232 (by decide) (fun h1456 => ?_) (fun h1456 => ?_)
            · skip
              exfalso; omega
            · skip
              have eF := hF.eq
              have eP := hP.eq
              obtain ⟨v1457, c1458⟩ : ∃ v, I1430 a0 10 = v := ⟨_, rfl⟩
              have b1459 := iv15_10 hS1436.1 ta0 c1458
              obtain ⟨v1460, c1461⟩ : ∃ v, I1430 a0 11 = v := ⟨_, rfl⟩
              obtain ⟨y1462, c1463⟩ : ∃ v, L1432 a0 15 = v := ⟨_, rfl⟩
              obtain ⟨v1464, c1465⟩ : ∃ v, I1430 a0 12 = v := ⟨_, rfl⟩
              obtain ⟨v1466, c1467⟩ : ∃ v, I1430 a0 8 = v := ⟨_, rfl⟩
              have b1468 := iv15_8 hS1436.1 ta0 c1467
              exact tr_vret hZ dX12_readTurner_235 rfl (by decide) (by decide) (hq _ _ _ ⟨hS1436, (Or.inr (⟨(by (try rw [w76]); first | done | omega), (by (try rw [w76]); (try rw [c1440]); first | done | omega), (by (try rw [w76]); (try rw [c1443]); first | done | omega), (by (try rw [w76]); (try rw [c1445]); first | done | omega), trivial⟩)), trivial⟩)
          · skip
            exfalso; omega
      · skip
        obtain ⟨v1469, c1470⟩ : ∃ v, I228 a0 9 = v := ⟨_, rfl⟩
        have b1471 := iv15_9 hS236.1 ta0 c1470
        rw [c1470] at p262
        obtain ⟨v1472, c1473⟩ : ∃ v, I228 a0 13 = v := ⟨_, rfl⟩
        rw [c1473] at p263
        obtain ⟨v1474, c1475⟩ : ∃ v, I228 a0 14 = v := ⟨_, rfl⟩
        rw [c1475] at p264
        replace hF := hF.neg (by omega)
        replace hP := hP.neg (by omega)
        replace hF := hF.pos (by omega)
        replace hP := hP.pos (by omega)
        refine tr_istore dX12_readTurner_133 (by decide) (by decide) ?_
        refine tr_aload_n dX12_readTurner_135 hl0 ?_
        refine tr_ldcwS dX12_readTurner_136 ld12_327 ?_
        refine q_iconst dX12_readTurner_139 (by decide) ?_
        intro v1476 h1477
        refine q_bipush dX12_readTurner_140 (by decide +kernel) ?_
        intro v1478 h1479
        refine q_callVi hE (M' := mX12_readPart) (as := [_, _, _]) dX12_readTurner_142 lk12_249 inX12_readPart seX12_readPart myX12_readPart (by decide) ⟨by decide, by decide⟩ rfl (kR15 hS236.1 ta0) (Nat.le_of_ble_eq_true rfl) rfl rfl (by decide) (by decide) (k_X12_readPart hS236.1 ta0 (by decide)) ?_
        rintro v1484 cn' K' N' I1480 R1481 L1482 ⟨rfl, rfl, rfl, rfl, g1483, p1485, w1486, -⟩
        have hS1487 := hS236.tr g1483 (by decide +kernel) (by decide +kernel)
        have c1488 : I1480 a1 4 = v45 := (g1483.cell ta1 (by decide +kernel)).trans c237
        have b1489 : 1 ≤ v1484.toInt ∧ v1484.toInt ≤ 20 := by omega
        clear p1485
        have ov1490 := w1486.over (by rw [c1470]; omega)
        obtain ⟨v1491, c1492⟩ : ∃ v, I1480 a0 9 = v := ⟨_, rfl⟩
        have b1493 := iv15_9 hS1487.1 ta0 c1492
        obtain ⟨v1494, c1495⟩ : ∃ v, I1480 a0 13 = v := ⟨_, rfl⟩
        obtain ⟨v1496, c1497⟩ : ∃ v, I1480 a0 14 = v := ⟨_, rfl⟩
        (try rw [c1492] at ov1490)
        (try rw [c1495] at ov1490)
        (try rw [c1497] at ov1490)
        (try rw [c1470] at ov1490)
        (try rw [c1473] at ov1490)
        (try rw [c1475] at ov1490)
        refine tr_istore dX12_readTurner_145 (by decide) (by decide) ?_
        refine tr_aload_n dX12_readTurner_147 hl0 ?_
        refine tr_ldcS dX12_readTurner_148 ld12_253 ?_
        refine q_callVv hE (M' := mX12_needs) (as := [_]) dX12_readTurner_150 lk12_157 inX12_needs seX12_needs myX12_needs (by decide) ⟨by decide, by decide⟩ rfl (kR15 hS1487.1 ta0) (Nat.le_of_ble_eq_true rfl) rfl rfl (by decide) (by decide) (k_X12_needs hS1487.1 ta0 (by decide)) ?_
        rintro cn' K' N' I1498 R1499 L1500 ⟨rfl, rfl, rfl, rfl, g1501, w1503, -⟩
        have hS1504 := hS1487.tr g1501 (by decide +kernel) (by decide +kernel)
        have c1505 : I1498 a1 4 = v45 := (g1501.cell ta1 (by decide +kernel)).trans c1488
        have ov1506 := w1503.over (by rw [c1492]; omega)
        obtain ⟨v1507, c1508⟩ : ∃ v, I1498 a0 9 = v := ⟨_, rfl⟩
        have b1509 := iv15_9 hS1504.1 ta0 c1508
        obtain ⟨v1510, c1511⟩ : ∃ v, I1498 a0 13 = v := ⟨_, rfl⟩
        obtain ⟨v1512, c1513⟩ : ∃ v, I1498 a0 14 = v := ⟨_, rfl⟩
        (try rw [c1508] at ov1506)
        (try rw [c1511] at ov1506)
        (try rw [c1513] at ov1506)
        (try rw [c1492] at ov1506)
        (try rw [c1495] at ov1506)
        (try rw [c1497] at ov1506)
        refine q_iconst dX12_readTurner_153 (by decide) ?_
        intro v1514 h1515
        refine tr_istore dX12_readTurner_154 (by decide) (by decide) ?_
        refine q_iconst dX12_readTurner_156 (by decide) ?_
        intro v1516 h1517
        refine tr_istore dX12_readTurner_157 (by decide) (by decide) ?_
        refine tr_iload dX12_readTurner_159 rfl ?_
        refine q_if_eq 227 dX12_readTurner_161 (by decide) (fun h1518 => ?_) (fun h1518 => ?_)
        · skip
          exfalso; omega
        · skip
          refine tr_aload_n dX12_readTurner_164 hl0 ?_
          refine q_getI dX12_readTurner_165 fl12_99 (kR15 hS1504.1 ta0) c1508 ?_
          refine q_iconst dX12_readTurner_168 (by decide) ?_
          intro v1519 h1520
          refine q_icmp_eq 227 dX12_readTurner_169 (by decide) (fun h1521 => ?_) (fun h1521 => ?_)
          · skip
            refine tr_aload_n dX12_readTurner_227 hl0 ?_
            refine q_getI dX12_readTurner_228 fl12_99 (kR15 hS1504.1 ta0) c1508 ?_
            refine q_iconst dX12_readTurner_231 (by decide) ?_
            intro v1522 h1523
            refine q_icmp_ne 236 dX12_readTurner_232 (by decide) (fun h1524 => ?_) (fun h1524 => ?_)
            · skip
              exfalso; omega
            · skip
              have eF := hF.eq
              have eP := hP.eq
              obtain ⟨v1525, c1526⟩ : ∃ v, I1498 a0 10 = v := ⟨_, rfl⟩
              have b1527 := iv15_10 hS1504.1 ta0 c1526
              obtain ⟨v1528, c1529⟩ : ∃ v, I1498 a0 11 = v := ⟨_, rfl⟩
              obtain ⟨y1530, c1531⟩ : ∃ v, L1500 a0 15 = v := ⟨_, rfl⟩
              obtain ⟨v1532, c1533⟩ : ∃ v, I1498 a0 12 = v := ⟨_, rfl⟩
              obtain ⟨v1534, c1535⟩ : ∃ v, I1498 a0 8 = v := ⟨_, rfl⟩
              have b1536 := iv15_8 hS1504.1 ta0 c1535
              exact tr_vret hZ dX12_readTurner_235 rfl (by decide) (by decide) (hq _ _ _ ⟨hS1504, (Or.inr (⟨(by (try rw [w76]); first | done | omega), (by (try rw [w76]); (try rw [c1508]); first | done | omega), (by (try rw [w76]); (try rw [c1511]); first | done | omega), (by (try rw [w76]); (try rw [c1513]); first | done | omega), trivial⟩)), trivial⟩)
          · skip
            exfalso; omega
      · skip
        obtain ⟨v1537, c1538⟩ : ∃ v, I228 a0 9 = v := ⟨_, rfl⟩
        have b1539 := iv15_9 hS236.1 ta0 c1538
        rw [c1538] at p270
        obtain ⟨v1540, c1541⟩ : ∃ v, I228 a0 13 = v := ⟨_, rfl⟩
        rw [c1541] at p271
        obtain ⟨v1542, c1543⟩ : ∃ v, I228 a0 14 = v := ⟨_, rfl⟩
        rw [c1543] at p272
        replace hF := hF.neg (by omega)
        replace hP := hP.neg (by omega)
        replace hF := hF.neg (by omega)
        replace hP := hP.neg (by omega)
        replace hF := hF.pos (by omega)
        replace hP := hP.pos (by omega)
        refine tr_istore dX12_readTurner_133 (by decide) (by decide) ?_
        refine tr_aload_n dX12_readTurner_135 hl0 ?_
        refine tr_ldcwS dX12_readTurner_136 ld12_327 ?_
        refine q_iconst dX12_readTurner_139 (by decide) ?_
        intro v1544 h1545
        refine q_bipush dX12_readTurner_140 (by decide +kernel) ?_
        intro v1546 h1547
        refine q_callVi hE (M' := mX12_readPart) (as := [_, _, _]) dX12_readTurner_142 lk12_249 inX12_readPart seX12_readPart myX12_readPart (by decide) ⟨by decide, by decide⟩ rfl (kR15 hS236.1 ta0) (Nat.le_of_ble_eq_true rfl) rfl rfl (by decide) (by decide) (k_X12_readPart hS236.1 ta0 (by decide)) ?_
        rintro v1552 cn' K' N' I1548 R1549 L1550 ⟨rfl, rfl, rfl, rfl, g1551, p1553, w1554, -⟩
        have hS1555 := hS236.tr g1551 (by decide +kernel) (by decide +kernel)
        have c1556 : I1548 a1 4 = v45 := (g1551.cell ta1 (by decide +kernel)).trans c237
        have b1557 : 1 ≤ v1552.toInt ∧ v1552.toInt ≤ 20 := by omega
        clear p1553
        have ov1558 := w1554.over (by rw [c1538]; omega)
        obtain ⟨v1559, c1560⟩ : ∃ v, I1548 a0 9 = v := ⟨_, rfl⟩
        have b1561 := iv15_9 hS1555.1 ta0 c1560
        obtain ⟨v1562, c1563⟩ : ∃ v, I1548 a0 13 = v := ⟨_, rfl⟩
        obtain ⟨v1564, c1565⟩ : ∃ v, I1548 a0 14 = v := ⟨_, rfl⟩
        (try rw [c1560] at ov1558)
        (try rw [c1563] at ov1558)
        (try rw [c1565] at ov1558)
        (try rw [c1538] at ov1558)
        (try rw [c1541] at ov1558)
        (try rw [c1543] at ov1558)
        refine tr_istore dX12_readTurner_145 (by decide) (by decide) ?_
        refine tr_aload_n dX12_readTurner_147 hl0 ?_
        refine tr_ldcS dX12_readTurner_148 ld12_253 ?_
        refine q_callVv hE (M' := mX12_needs) (as := [_]) dX12_readTurner_150 lk12_157 inX12_needs seX12_needs myX12_needs (by decide) ⟨by decide, by decide⟩ rfl (kR15 hS1555.1 ta0) (Nat.le_of_ble_eq_true rfl) rfl rfl (by decide) (by decide) (k_X12_needs hS1555.1 ta0 (by decide)) ?_
        rintro cn' K' N' I1566 R1567 L1568 ⟨rfl, rfl, rfl, rfl, g1569, w1571, -⟩
        have hS1572 := hS1555.tr g1569 (by decide +kernel) (by decide +kernel)
        have c1573 : I1566 a1 4 = v45 := (g1569.cell ta1 (by decide +kernel)).trans c1556
        have ov1574 := w1571.over (by rw [c1560]; omega)
        obtain ⟨v1575, c1576⟩ : ∃ v, I1566 a0 9 = v := ⟨_, rfl⟩
        have b1577 := iv15_9 hS1572.1 ta0 c1576
        obtain ⟨v1578, c1579⟩ : ∃ v, I1566 a0 13 = v := ⟨_, rfl⟩
        obtain ⟨v1580, c1581⟩ : ∃ v, I1566 a0 14 = v := ⟨_, rfl⟩
        (try rw [c1576] at ov1574)
        (try rw [c1579] at ov1574)
        (try rw [c1581] at ov1574)
        (try rw [c1560] at ov1574)
        (try rw [c1563] at ov1574)
        (try rw [c1565] at ov1574)
        refine q_iconst dX12_readTurner_153 (by decide) ?_
        intro v1582 h1583
        refine tr_istore dX12_readTurner_154 (by decide) (by decide) ?_
        refine q_iconst dX12_readTurner_156 (by decide) ?_
        intro v1584 h1585
        refine tr_istore dX12_readTurner_157 (by decide) (by decide) ?_
        refine tr_iload dX12_readTurner_159 rfl ?_
        refine q_if_eq 227 dX12_readTurner_161 (by decide) (fun h1586 => ?_) (fun h1586 => ?_)
        · skip
          exfalso; omega
        · skip
          refine tr_aload_n dX12_readTurner_164 hl0 ?_
          refine q_getI dX12_readTurner_165 fl12_99 (kR15 hS1572.1 ta0) c1576 ?_
          refine q_iconst dX12_readTurner_168 (by decide) ?_
          intro v1587 h1588
          refine q_icmp_eq 227 dX12_readTurner_169 (by decide) (fun h1589 => ?_) (fun h1589 => ?_)
          · skip
            refine tr_aload_n dX12_readTurner_227 hl0 ?_
            refine q_getI dX12_readTurner_228 fl12_99 (kR15 hS1572.1 ta0) c1576 ?_
            refine q_iconst dX12_readTurner_231 (by decide) ?_
            intro v1590 h1591
            refine q_icmp_ne 236 dX12_readTurner_232 (by decide) (fun h1592 => ?_) (fun h1592 => ?_)
            · skip
              exfalso; omega
            · skip
              have eF := hF.eq
              have eP := hP.eq
              obtain ⟨v1593, c1594⟩ : ∃ v, I1566 a0 10 = v := ⟨_, rfl⟩
              have b1595 := iv15_10 hS1572.1 ta0 c1594
              obtain ⟨v1596, c1597⟩ : ∃ v, I1566 a0 11 = v := ⟨_, rfl⟩
              obtain ⟨y1598, c1599⟩ : ∃ v, L1568 a0 15 = v := ⟨_, rfl⟩
              obtain ⟨v1600, c1601⟩ : ∃ v, I1566 a0 12 = v := ⟨_, rfl⟩
              obtain ⟨v1602, c1603⟩ : ∃ v, I1566 a0 8 = v := ⟨_, rfl⟩
              have b1604 := iv15_8 hS1572.1 ta0 c1603
              exact tr_vret hZ dX12_readTurner_235 rfl (by decide) (by decide) (hq _ _ _ ⟨hS1572, (Or.inr (⟨(by (try rw [w76]); first | done | omega), (by (try rw [w76]); (try rw [c1576]); first | done | omega), (by (try rw [w76]); (try rw [c1579]); first | done | omega), (by (try rw [w76]); (try rw [c1581]); first | done | omega), trivial⟩)), trivial⟩)
          · skip
            exfalso; omega
    · skip
      obtain ⟨v1605, c1606⟩ : ∃ v, I160 a0 9 = v := ⟨_, rfl⟩
      have b1607 := iv15_9 hS168.1 ta0 c1606
      rw [c1606] at p187
      obtain ⟨v1608, c1609⟩ : ∃ v, I160 a0 13 = v := ⟨_, rfl⟩
      rw [c1609] at p188
      obtain ⟨v1610, c1611⟩ : ∃ v, I160 a0 14 = v := ⟨_, rfl⟩
      rw [c1611] at p189
      replace hF := hF.pos (by omega)
      replace hP := hP.pos (by omega)
      refine tr_istore dX12_readTurner_121 (by decide) (by decide) ?_
      refine tr_aload_n dX12_readTurner_123 hl0 ?_
      refine tr_ldcwS dX12_readTurner_124 ld12_325 ?_
      refine q_iconst dX12_readTurner_127 (by decide) ?_
      intro v1612 h1613
      refine q_bipush dX12_readTurner_128 (by decide +kernel) ?_
      intro v1614 h1615
      refine q_callVi hE (M' := mX12_readPart) (as := [_, _, _]) dX12_readTurner_130 lk12_249 inX12_readPart seX12_readPart myX12_readPart (by decide) ⟨by decide, by decide⟩ rfl (kR15 hS168.1 ta0) (Nat.le_of_ble_eq_true rfl) rfl rfl (by decide) (by decide) (k_X12_readPart hS168.1 ta0 (by decide)) ?_
      rintro v1620 cn' K' N' I1616 R1617 L1618 ⟨rfl, rfl, rfl, rfl, g1619, p1621, w1622, -⟩
      have hS1623 := hS168.tr g1619 (by decide +kernel) (by decide +kernel)
      have c1624 : I1616 a1 4 = v45 := (g1619.cell ta1 (by decide +kernel)).trans c169
      have b1625 : 1 ≤ v1620.toInt ∧ v1620.toInt ≤ 8 := by omega
      clear p1621
      have ov1626 := w1622.over (by rw [c1606]; omega)
      obtain ⟨v1627, c1628⟩ : ∃ v, I1616 a0 9 = v := ⟨_, rfl⟩
      have b1629 := iv15_9 hS1623.1 ta0 c1628
      obtain ⟨v1630, c1631⟩ : ∃ v, I1616 a0 13 = v := ⟨_, rfl⟩
      obtain ⟨v1632, c1633⟩ : ∃ v, I1616 a0 14 = v := ⟨_, rfl⟩
      (try rw [c1628] at ov1626)
      (try rw [c1631] at ov1626)
      (try rw [c1633] at ov1626)
      (try rw [c1606] at ov1626)
      (try rw [c1609] at ov1626)
      (try rw [c1611] at ov1626)
      refine tr_istore dX12_readTurner_133 (by decide) (by decide) ?_
      refine tr_aload_n dX12_readTurner_135 hl0 ?_
      refine tr_ldcwS dX12_readTurner_136 ld12_327 ?_
      refine q_iconst dX12_readTurner_139 (by decide) ?_
      intro v1634 h1635
      refine q_bipush dX12_readTurner_140 (by decide +kernel) ?_
      intro v1636 h1637
      refine q_callVi hE (M' := mX12_readPart) (as := [_, _, _]) dX12_readTurner_142 lk12_249 inX12_readPart seX12_readPart myX12_readPart (by decide) ⟨by decide, by decide⟩ rfl (kR15 hS1623.1 ta0) (Nat.le_of_ble_eq_true rfl) rfl rfl (by decide) (by decide) (k_X12_readPart hS1623.1 ta0 (by decide)) ?_
      rintro v1642 cn' K' N' I1638 R1639 L1640 ⟨rfl, rfl, rfl, rfl, g1641, p1643, w1644, -⟩
      have hS1645 := hS1623.tr g1641 (by decide +kernel) (by decide +kernel)
      have c1646 : I1638 a1 4 = v45 := (g1641.cell ta1 (by decide +kernel)).trans c1624
      have b1647 : 1 ≤ v1642.toInt ∧ v1642.toInt ≤ 20 := by omega
      clear p1643
      have ov1648 := w1644.over (by rw [c1628]; omega)
      obtain ⟨v1649, c1650⟩ : ∃ v, I1638 a0 9 = v := ⟨_, rfl⟩
      have b1651 := iv15_9 hS1645.1 ta0 c1650
      obtain ⟨v1652, c1653⟩ : ∃ v, I1638 a0 13 = v := ⟨_, rfl⟩
      obtain ⟨v1654, c1655⟩ : ∃ v, I1638 a0 14 = v := ⟨_, rfl⟩
      (try rw [c1650] at ov1648)
      (try rw [c1653] at ov1648)
      (try rw [c1655] at ov1648)
      (try rw [c1628] at ov1648)
      (try rw [c1631] at ov1648)
      (try rw [c1633] at ov1648)
      refine tr_istore dX12_readTurner_145 (by decide) (by decide) ?_
      refine tr_aload_n dX12_readTurner_147 hl0 ?_
      refine tr_ldcS dX12_readTurner_148 ld12_253 ?_
      refine q_callVv hE (M' := mX12_needs) (as := [_]) dX12_readTurner_150 lk12_157 inX12_needs seX12_needs myX12_needs (by decide) ⟨by decide, by decide⟩ rfl (kR15 hS1645.1 ta0) (Nat.le_of_ble_eq_true rfl) rfl rfl (by decide) (by decide) (k_X12_needs hS1645.1 ta0 (by decide)) ?_
      rintro cn' K' N' I1656 R1657 L1658 ⟨rfl, rfl, rfl, rfl, g1659, w1661, -⟩
      have hS1662 := hS1645.tr g1659 (by decide +kernel) (by decide +kernel)
      have c1663 : I1656 a1 4 = v45 := (g1659.cell ta1 (by decide +kernel)).trans c1646
      have ov1664 := w1661.over (by rw [c1650]; omega)
      obtain ⟨v1665, c1666⟩ : ∃ v, I1656 a0 9 = v := ⟨_, rfl⟩
      have b1667 := iv15_9 hS1662.1 ta0 c1666
      obtain ⟨v1668, c1669⟩ : ∃ v, I1656 a0 13 = v := ⟨_, rfl⟩
      obtain ⟨v1670, c1671⟩ : ∃ v, I1656 a0 14 = v := ⟨_, rfl⟩
      (try rw [c1666] at ov1664)
      (try rw [c1669] at ov1664)
      (try rw [c1671] at ov1664)
      (try rw [c1650] at ov1664)
      (try rw [c1653] at ov1664)
      (try rw [c1655] at ov1664)
      refine q_iconst dX12_readTurner_153 (by decide) ?_
      intro v1672 h1673
      refine tr_istore dX12_readTurner_154 (by decide) (by decide) ?_
      refine q_iconst dX12_readTurner_156 (by decide) ?_
      intro v1674 h1675
      refine tr_istore dX12_readTurner_157 (by decide) (by decide) ?_
      refine tr_iload dX12_readTurner_159 rfl ?_
      refine q_if_eq 227 dX12_readTurner_161 (by decide) (fun h1676 => ?_) (fun h1676 => ?_)
      · skip
        exfalso; omega
      · skip
        refine tr_aload_n dX12_readTurner_164 hl0 ?_
        refine q_getI dX12_readTurner_165 fl12_99 (kR15 hS1662.1 ta0) c1666 ?_
        refine q_iconst dX12_readTurner_168 (by decide) ?_
        intro v1677 h1678
        refine q_icmp_eq 227 dX12_readTurner_169 (by decide) (fun h1679 => ?_) (fun h1679 => ?_)
        · skip
          refine tr_aload_n dX12_readTurner_227 hl0 ?_
          refine q_getI dX12_readTurner_228 fl12_99 (kR15 hS1662.1 ta0) c1666 ?_
          refine q_iconst dX12_readTurner_231 (by decide) ?_
          intro v1680 h1681
          refine q_icmp_ne 236 dX12_readTurner_232 (by decide) (fun h1682 => ?_) (fun h1682 => ?_)
          · skip
            exfalso; omega
          · skip
            have eF := hF.eq
            have eP := hP.eq
            obtain ⟨v1683, c1684⟩ : ∃ v, I1656 a0 10 = v := ⟨_, rfl⟩
            have b1685 := iv15_10 hS1662.1 ta0 c1684
            obtain ⟨v1686, c1687⟩ : ∃ v, I1656 a0 11 = v := ⟨_, rfl⟩
            obtain ⟨y1688, c1689⟩ : ∃ v, L1658 a0 15 = v := ⟨_, rfl⟩
            obtain ⟨v1690, c1691⟩ : ∃ v, I1656 a0 12 = v := ⟨_, rfl⟩
            obtain ⟨v1692, c1693⟩ : ∃ v, I1656 a0 8 = v := ⟨_, rfl⟩
            have b1694 := iv15_8 hS1662.1 ta0 c1693
            exact tr_vret hZ dX12_readTurner_235 rfl (by decide) (by decide) (hq _ _ _ ⟨hS1662, (Or.inr (⟨(by (try rw [w76]); first | done | omega), (by (try rw [w76]); (try rw [c1666]); first | done | omega), (by (try rw [w76]); (try rw [c1669]); first | done | omega), (by (try rw [w76]); (try rw [c1671]); first | done | omega), trivial⟩)), trivial⟩)
        · skip
          exfalso; omega
    · skip
      obtain ⟨v1695, c1696⟩ : ∃ v, I160 a0 9 = v := ⟨_, rfl⟩
      have b1697 := iv15_9 hS168.1 ta0 c1696
      rw [c1696] at p194
      obtain ⟨v1698, c1699⟩ : ∃ v, I160 a0 13 = v := ⟨_, rfl⟩
      rw [c1699] at p195
      obtain ⟨v1700, c1701⟩ : ∃ v, I160 a0 14 = v := ⟨_, rfl⟩
      rw [c1701] at p196
      replace hF := hF.neg (by omega)
      replace hP := hP.neg (by omega)
      replace hF := hF.pos (by omega)
      replace hP := hP.pos (by omega)
      refine tr_istore dX12_readTurner_121 (by decide) (by decide) ?_
      refine tr_aload_n dX12_readTurner_123 hl0 ?_
      refine tr_ldcwS dX12_readTurner_124 ld12_325 ?_
      refine q_iconst dX12_readTurner_127 (by decide) ?_
      intro v1702 h1703
      refine q_bipush dX12_readTurner_128 (by decide +kernel) ?_
      intro v1704 h1705
      refine q_callVi hE (M' := mX12_readPart) (as := [_, _, _]) dX12_readTurner_130 lk12_249 inX12_readPart seX12_readPart myX12_readPart (by decide) ⟨by decide, by decide⟩ rfl (kR15 hS168.1 ta0) (Nat.le_of_ble_eq_true rfl) rfl rfl (by decide) (by decide) (k_X12_readPart hS168.1 ta0 (by decide)) ?_
      rintro v1710 cn' K' N' I1706 R1707 L1708 ⟨rfl, rfl, rfl, rfl, g1709, p1711, w1712, -⟩
      have hS1713 := hS168.tr g1709 (by decide +kernel) (by decide +kernel)
      have c1714 : I1706 a1 4 = v45 := (g1709.cell ta1 (by decide +kernel)).trans c169
      have b1715 : 1 ≤ v1710.toInt ∧ v1710.toInt ≤ 8 := by omega
      clear p1711
      have ov1716 := w1712.over (by rw [c1696]; omega)
      obtain ⟨v1717, c1718⟩ : ∃ v, I1706 a0 9 = v := ⟨_, rfl⟩
      have b1719 := iv15_9 hS1713.1 ta0 c1718
      obtain ⟨v1720, c1721⟩ : ∃ v, I1706 a0 13 = v := ⟨_, rfl⟩
      obtain ⟨v1722, c1723⟩ : ∃ v, I1706 a0 14 = v := ⟨_, rfl⟩
      (try rw [c1718] at ov1716)
      (try rw [c1721] at ov1716)
      (try rw [c1723] at ov1716)
      (try rw [c1696] at ov1716)
      (try rw [c1699] at ov1716)
      (try rw [c1701] at ov1716)
      refine tr_istore dX12_readTurner_133 (by decide) (by decide) ?_
      refine tr_aload_n dX12_readTurner_135 hl0 ?_
      refine tr_ldcwS dX12_readTurner_136 ld12_327 ?_
      refine q_iconst dX12_readTurner_139 (by decide) ?_
      intro v1724 h1725
      refine q_bipush dX12_readTurner_140 (by decide +kernel) ?_
      intro v1726 h1727
      refine q_callVi hE (M' := mX12_readPart) (as := [_, _, _]) dX12_readTurner_142 lk12_249 inX12_readPart seX12_readPart myX12_readPart (by decide) ⟨by decide, by decide⟩ rfl (kR15 hS1713.1 ta0) (Nat.le_of_ble_eq_true rfl) rfl rfl (by decide) (by decide) (k_X12_readPart hS1713.1 ta0 (by decide)) ?_
      rintro v1732 cn' K' N' I1728 R1729 L1730 ⟨rfl, rfl, rfl, rfl, g1731, p1733, w1734, -⟩
      have hS1735 := hS1713.tr g1731 (by decide +kernel) (by decide +kernel)
      have c1736 : I1728 a1 4 = v45 := (g1731.cell ta1 (by decide +kernel)).trans c1714
      have b1737 : 1 ≤ v1732.toInt ∧ v1732.toInt ≤ 20 := by omega
      clear p1733
      have ov1738 := w1734.over (by rw [c1718]; omega)
      obtain ⟨v1739, c1740⟩ : ∃ v, I1728 a0 9 = v := ⟨_, rfl⟩
      have b1741 := iv15_9 hS1735.1 ta0 c1740
      obtain ⟨v1742, c1743⟩ : ∃ v, I1728 a0 13 = v := ⟨_, rfl⟩
      obtain ⟨v1744, c1745⟩ : ∃ v, I1728 a0 14 = v := ⟨_, rfl⟩
      (try rw [c1740] at ov1738)
      (try rw [c1743] at ov1738)
      (try rw [c1745] at ov1738)
      (try rw [c1718] at ov1738)
      (try rw [c1721] at ov1738)
      (try rw [c1723] at ov1738)
      refine tr_istore dX12_readTurner_145 (by decide) (by decide) ?_
      refine tr_aload_n dX12_readTurner_147 hl0 ?_
      refine tr_ldcS dX12_readTurner_148 ld12_253 ?_
      refine q_callVv hE (M' := mX12_needs) (as := [_]) dX12_readTurner_150 lk12_157 inX12_needs seX12_needs myX12_needs (by decide) ⟨by decide, by decide⟩ rfl (kR15 hS1735.1 ta0) (Nat.le_of_ble_eq_true rfl) rfl rfl (by decide) (by decide) (k_X12_needs hS1735.1 ta0 (by decide)) ?_
      rintro cn' K' N' I1746 R1747 L1748 ⟨rfl, rfl, rfl, rfl, g1749, w1751, -⟩
      have hS1752 := hS1735.tr g1749 (by decide +kernel) (by decide +kernel)
      have c1753 : I1746 a1 4 = v45 := (g1749.cell ta1 (by decide +kernel)).trans c1736
      have ov1754 := w1751.over (by rw [c1740]; omega)
      obtain ⟨v1755, c1756⟩ : ∃ v, I1746 a0 9 = v := ⟨_, rfl⟩
      have b1757 := iv15_9 hS1752.1 ta0 c1756
      obtain ⟨v1758, c1759⟩ : ∃ v, I1746 a0 13 = v := ⟨_, rfl⟩
      obtain ⟨v1760, c1761⟩ : ∃ v, I1746 a0 14 = v := ⟨_, rfl⟩
      (try rw [c1756] at ov1754)
      (try rw [c1759] at ov1754)
      (try rw [c1761] at ov1754)
      (try rw [c1740] at ov1754)
      (try rw [c1743] at ov1754)
      (try rw [c1745] at ov1754)
      refine q_iconst dX12_readTurner_153 (by decide) ?_
      intro v1762 h1763
      refine tr_istore dX12_readTurner_154 (by decide) (by decide) ?_
      refine q_iconst dX12_readTurner_156 (by decide) ?_
      intro v1764 h1765
      refine tr_istore dX12_readTurner_157 (by decide) (by decide) ?_
      refine tr_iload dX12_readTurner_159 rfl ?_
      refine q_if_eq 227 dX12_readTurner_161 (by decide) (fun h1766 => ?_) (fun h1766 => ?_)
      · skip
        exfalso; omega
      · skip
        refine tr_aload_n dX12_readTurner_164 hl0 ?_
        refine q_getI dX12_readTurner_165 fl12_99 (kR15 hS1752.1 ta0) c1756 ?_
        refine q_iconst dX12_readTurner_168 (by decide) ?_
        intro v1767 h1768
        refine q_icmp_eq 227 dX12_readTurner_169 (by decide) (fun h1769 => ?_) (fun h1769 => ?_)
        · skip
          refine tr_aload_n dX12_readTurner_227 hl0 ?_
          refine q_getI dX12_readTurner_228 fl12_99 (kR15 hS1752.1 ta0) c1756 ?_
          refine q_iconst dX12_readTurner_231 (by decide) ?_
          intro v1770 h1771
          refine q_icmp_ne 236 dX12_readTurner_232 (by decide) (fun h1772 => ?_) (fun h1772 => ?_)
          · skip
            exfalso; omega
          · skip
            have eF := hF.eq
            have eP := hP.eq
            obtain ⟨v1773, c1774⟩ : ∃ v, I1746 a0 10 = v := ⟨_, rfl⟩
            have b1775 := iv15_10 hS1752.1 ta0 c1774
            obtain ⟨v1776, c1777⟩ : ∃ v, I1746 a0 11 = v := ⟨_, rfl⟩
            obtain ⟨y1778, c1779⟩ : ∃ v, L1748 a0 15 = v := ⟨_, rfl⟩
            obtain ⟨v1780, c1781⟩ : ∃ v, I1746 a0 12 = v := ⟨_, rfl⟩
            obtain ⟨v1782, c1783⟩ : ∃ v, I1746 a0 8 = v := ⟨_, rfl⟩
            have b1784 := iv15_8 hS1752.1 ta0 c1783
            exact tr_vret hZ dX12_readTurner_235 rfl (by decide) (by decide) (hq _ _ _ ⟨hS1752, (Or.inr (⟨(by (try rw [w76]); first | done | omega), (by (try rw [w76]); (try rw [c1756]); first | done | omega), (by (try rw [w76]); (try rw [c1759]); first | done | omega), (by (try rw [w76]); (try rw [c1761]); first | done | omega), trivial⟩)), trivial⟩)
        · skip
          exfalso; omega
    · skip
      obtain ⟨v1785, c1786⟩ : ∃ v, I160 a0 9 = v := ⟨_, rfl⟩
      have b1787 := iv15_9 hS168.1 ta0 c1786
      rw [c1786] at p202
      obtain ⟨v1788, c1789⟩ : ∃ v, I160 a0 13 = v := ⟨_, rfl⟩
      rw [c1789] at p203
      obtain ⟨v1790, c1791⟩ : ∃ v, I160 a0 14 = v := ⟨_, rfl⟩
      rw [c1791] at p204
      replace hF := hF.neg (by omega)
      replace hP := hP.neg (by omega)
      replace hF := hF.neg (by omega)
      replace hP := hP.neg (by omega)
      replace hF := hF.pos (by omega)
      replace hP := hP.pos (by omega)
      refine tr_istore dX12_readTurner_121 (by decide) (by decide) ?_
      refine tr_aload_n dX12_readTurner_123 hl0 ?_
      refine tr_ldcwS dX12_readTurner_124 ld12_325 ?_
      refine q_iconst dX12_readTurner_127 (by decide) ?_
      intro v1792 h1793
      refine q_bipush dX12_readTurner_128 (by decide +kernel) ?_
      intro v1794 h1795
      refine q_callVi hE (M' := mX12_readPart) (as := [_, _, _]) dX12_readTurner_130 lk12_249 inX12_readPart seX12_readPart myX12_readPart (by decide) ⟨by decide, by decide⟩ rfl (kR15 hS168.1 ta0) (Nat.le_of_ble_eq_true rfl) rfl rfl (by decide) (by decide) (k_X12_readPart hS168.1 ta0 (by decide)) ?_
      rintro v1800 cn' K' N' I1796 R1797 L1798 ⟨rfl, rfl, rfl, rfl, g1799, p1801, w1802, -⟩
      have hS1803 := hS168.tr g1799 (by decide +kernel) (by decide +kernel)
      have c1804 : I1796 a1 4 = v45 := (g1799.cell ta1 (by decide +kernel)).trans c169
      have b1805 : 1 ≤ v1800.toInt ∧ v1800.toInt ≤ 8 := by omega
      clear p1801
      have ov1806 := w1802.over (by rw [c1786]; omega)
      obtain ⟨v1807, c1808⟩ : ∃ v, I1796 a0 9 = v := ⟨_, rfl⟩
      have b1809 := iv15_9 hS1803.1 ta0 c1808
      obtain ⟨v1810, c1811⟩ : ∃ v, I1796 a0 13 = v := ⟨_, rfl⟩
      obtain ⟨v1812, c1813⟩ : ∃ v, I1796 a0 14 = v := ⟨_, rfl⟩
      (try rw [c1808] at ov1806)
      (try rw [c1811] at ov1806)
      (try rw [c1813] at ov1806)
      (try rw [c1786] at ov1806)
      (try rw [c1789] at ov1806)
      (try rw [c1791] at ov1806)
      refine tr_istore dX12_readTurner_133 (by decide) (by decide) ?_
      refine tr_aload_n dX12_readTurner_135 hl0 ?_
      refine tr_ldcwS dX12_readTurner_136 ld12_327 ?_
      refine q_iconst dX12_readTurner_139 (by decide) ?_
      intro v1814 h1815
      refine q_bipush dX12_readTurner_140 (by decide +kernel) ?_
      intro v1816 h1817
      refine q_callVi hE (M' := mX12_readPart) (as := [_, _, _]) dX12_readTurner_142 lk12_249 inX12_readPart seX12_readPart myX12_readPart (by decide) ⟨by decide, by decide⟩ rfl (kR15 hS1803.1 ta0) (Nat.le_of_ble_eq_true rfl) rfl rfl (by decide) (by decide) (k_X12_readPart hS1803.1 ta0 (by decide)) ?_
      rintro v1822 cn' K' N' I1818 R1819 L1820 ⟨rfl, rfl, rfl, rfl, g1821, p1823, w1824, -⟩
      have hS1825 := hS1803.tr g1821 (by decide +kernel) (by decide +kernel)
      have c1826 : I1818 a1 4 = v45 := (g1821.cell ta1 (by decide +kernel)).trans c1804
      have b1827 : 1 ≤ v1822.toInt ∧ v1822.toInt ≤ 20 := by omega
      clear p1823
      have ov1828 := w1824.over (by rw [c1808]; omega)
      obtain ⟨v1829, c1830⟩ : ∃ v, I1818 a0 9 = v := ⟨_, rfl⟩
      have b1831 := iv15_9 hS1825.1 ta0 c1830
      obtain ⟨v1832, c1833⟩ : ∃ v, I1818 a0 13 = v := ⟨_, rfl⟩
      obtain ⟨v1834, c1835⟩ : ∃ v, I1818 a0 14 = v := ⟨_, rfl⟩
      (try rw [c1830] at ov1828)
      (try rw [c1833] at ov1828)
      (try rw [c1835] at ov1828)
      (try rw [c1808] at ov1828)
      (try rw [c1811] at ov1828)
      (try rw [c1813] at ov1828)
      refine tr_istore dX12_readTurner_145 (by decide) (by decide) ?_
      refine tr_aload_n dX12_readTurner_147 hl0 ?_
      refine tr_ldcS dX12_readTurner_148 ld12_253 ?_
      refine q_callVv hE (M' := mX12_needs) (as := [_]) dX12_readTurner_150 lk12_157 inX12_needs seX12_needs myX12_needs (by decide) ⟨by decide, by decide⟩ rfl (kR15 hS1825.1 ta0) (Nat.le_of_ble_eq_true rfl) rfl rfl (by decide) (by decide) (k_X12_needs hS1825.1 ta0 (by decide)) ?_
      rintro cn' K' N' I1836 R1837 L1838 ⟨rfl, rfl, rfl, rfl, g1839, w1841, -⟩
      have hS1842 := hS1825.tr g1839 (by decide +kernel) (by decide +kernel)
      have c1843 : I1836 a1 4 = v45 := (g1839.cell ta1 (by decide +kernel)).trans c1826
      have ov1844 := w1841.over (by rw [c1830]; omega)
      obtain ⟨v1845, c1846⟩ : ∃ v, I1836 a0 9 = v := ⟨_, rfl⟩
      have b1847 := iv15_9 hS1842.1 ta0 c1846
      obtain ⟨v1848, c1849⟩ : ∃ v, I1836 a0 13 = v := ⟨_, rfl⟩
      obtain ⟨v1850, c1851⟩ : ∃ v, I1836 a0 14 = v := ⟨_, rfl⟩
      (try rw [c1846] at ov1844)
      (try rw [c1849] at ov1844)
      (try rw [c1851] at ov1844)
      (try rw [c1830] at ov1844)
      (try rw [c1833] at ov1844)
      (try rw [c1835] at ov1844)
      refine q_iconst dX12_readTurner_153 (by decide) ?_
      intro v1852 h1853
      refine tr_istore dX12_readTurner_154 (by decide) (by decide) ?_
      refine q_iconst dX12_readTurner_156 (by decide) ?_
      intro v1854 h1855
      refine tr_istore dX12_readTurner_157 (by decide) (by decide) ?_
      refine tr_iload dX12_readTurner_159 rfl ?_
      refine q_if_eq 227 dX12_readTurner_161 (by decide) (fun h1856 => ?_) (fun h1856 => ?_)
      · skip
        exfalso; omega
      · skip
        refine tr_aload_n dX12_readTurner_164 hl0 ?_
        refine q_getI dX12_readTurner_165 fl12_99 (kR15 hS1842.1 ta0) c1846 ?_
        refine q_iconst dX12_readTurner_168 (by decide) ?_
        intro v1857 h1858
        refine q_icmp_eq 227 dX12_readTurner_169 (by decide) (fun h1859 => ?_) (fun h1859 => ?_)
        · skip
          refine tr_aload_n dX12_readTurner_227 hl0 ?_
          refine q_getI dX12_readTurner_228 fl12_99 (kR15 hS1842.1 ta0) c1846 ?_
          refine q_iconst dX12_readTurner_231 (by decide) ?_
          intro v1860 h1861
          refine q_icmp_ne 236 dX12_readTurner_232 (by decide) (fun h1862 => ?_) (fun h1862 => ?_)
          · skip
            exfalso; omega
          · skip
            have eF := hF.eq
            have eP := hP.eq
            obtain ⟨v1863, c1864⟩ : ∃ v, I1836 a0 10 = v := ⟨_, rfl⟩
            have b1865 := iv15_10 hS1842.1 ta0 c1864
            obtain ⟨v1866, c1867⟩ : ∃ v, I1836 a0 11 = v := ⟨_, rfl⟩
            obtain ⟨y1868, c1869⟩ : ∃ v, L1838 a0 15 = v := ⟨_, rfl⟩
            obtain ⟨v1870, c1871⟩ : ∃ v, I1836 a0 12 = v := ⟨_, rfl⟩
            obtain ⟨v1872, c1873⟩ : ∃ v, I1836 a0 8 = v := ⟨_, rfl⟩
            have b1874 := iv15_8 hS1842.1 ta0 c1873
            exact tr_vret hZ dX12_readTurner_235 rfl (by decide) (by decide) (hq _ _ _ ⟨hS1842, (Or.inr (⟨(by (try rw [w76]); first | done | omega), (by (try rw [w76]); (try rw [c1846]); first | done | omega), (by (try rw [w76]); (try rw [c1849]); first | done | omega), (by (try rw [w76]); (try rw [c1851]); first | done | omega), trivial⟩)), trivial⟩)
        · skip
          exfalso; omega
  · skip
    obtain ⟨v1875, c1876⟩ : ∃ v, I92 a0 9 = v := ⟨_, rfl⟩
    have b1877 := iv15_9 hS100.1 ta0 c1876
    rw [c1876] at p119
    obtain ⟨v1878, c1879⟩ : ∃ v, I92 a0 13 = v := ⟨_, rfl⟩
    rw [c1879] at p120
    obtain ⟨v1880, c1881⟩ : ∃ v, I92 a0 14 = v := ⟨_, rfl⟩
    rw [c1881] at p121
    replace hF := hF.pos (by omega)
    replace hP := hP.pos (by omega)
    refine tr_istore dX12_readTurner_101 (by decide) (by decide) ?_
    refine tr_aload_n dX12_readTurner_103 hl0 ?_
    refine tr_ldcwS dX12_readTurner_104 ld12_272 ?_
    refine tr_iload dX12_readTurner_107 rfl ?_
    refine q_iconst dX12_readTurner_109 (by decide) ?_
    intro v1882 h1883
    refine q_iaddE dX12_readTurner_110 (by intros; omega) ?_
    intro v1884 h1885
    refine tr_aload_n dX12_readTurner_111 hl0 ?_
    refine tr_getR dX12_readTurner_112 fl12_188 (kR15 hS100.1 ta0) d2 ?_
    refine q_getI dX12_readTurner_115 fl12_192 (kR14 hS100.1 ta1) ((hS100.cell ta1 (by decide +kernel)).trans c30) ?_
    refine q_callVi hE (M' := mX12_readPart) (as := [_, _, _]) dX12_readTurner_118 lk12_249 inX12_readPart seX12_readPart myX12_readPart (by decide) ⟨by decide, by decide⟩ rfl (kR15 hS100.1 ta0) (Nat.le_of_ble_eq_true rfl) rfl rfl (by decide) (by decide) (k_X12_readPart hS100.1 ta0 (by decide)) ?_
    rintro v1890 cn' K' N' I1886 R1887 L1888 ⟨rfl, rfl, rfl, rfl, g1889, p1891, w1892, -⟩
    have hS1893 := hS100.tr g1889 (by decide +kernel) (by decide +kernel)
    have c1894 : I1886 a1 4 = v45 := (g1889.cell ta1 (by decide +kernel)).trans c101
    have b1895 : 1 ≤ v1890.toInt ∧ v1890.toInt ≤ 240 := by omega
    clear p1891
    have ov1896 := w1892.over (by rw [c1876]; omega)
    obtain ⟨v1897, c1898⟩ : ∃ v, I1886 a0 9 = v := ⟨_, rfl⟩
    have b1899 := iv15_9 hS1893.1 ta0 c1898
    obtain ⟨v1900, c1901⟩ : ∃ v, I1886 a0 13 = v := ⟨_, rfl⟩
    obtain ⟨v1902, c1903⟩ : ∃ v, I1886 a0 14 = v := ⟨_, rfl⟩
    (try rw [c1898] at ov1896)
    (try rw [c1901] at ov1896)
    (try rw [c1903] at ov1896)
    (try rw [c1876] at ov1896)
    (try rw [c1879] at ov1896)
    (try rw [c1881] at ov1896)
    refine tr_istore dX12_readTurner_121 (by decide) (by decide) ?_
    refine tr_aload_n dX12_readTurner_123 hl0 ?_
    refine tr_ldcwS dX12_readTurner_124 ld12_325 ?_
    refine q_iconst dX12_readTurner_127 (by decide) ?_
    intro v1904 h1905
    refine q_bipush dX12_readTurner_128 (by decide +kernel) ?_
    intro v1906 h1907
    refine q_callVi hE (M' := mX12_readPart) (as := [_, _, _]) dX12_readTurner_130 lk12_249 inX12_readPart seX12_readPart myX12_readPart (by decide) ⟨by decide, by decide⟩ rfl (kR15 hS1893.1 ta0) (Nat.le_of_ble_eq_true rfl) rfl rfl (by decide) (by decide) (k_X12_readPart hS1893.1 ta0 (by decide)) ?_
    rintro v1912 cn' K' N' I1908 R1909 L1910 ⟨rfl, rfl, rfl, rfl, g1911, p1913, w1914, -⟩
    have hS1915 := hS1893.tr g1911 (by decide +kernel) (by decide +kernel)
    have c1916 : I1908 a1 4 = v45 := (g1911.cell ta1 (by decide +kernel)).trans c1894
    have b1917 : 1 ≤ v1912.toInt ∧ v1912.toInt ≤ 8 := by omega
    clear p1913
    have ov1918 := w1914.over (by rw [c1898]; omega)
    obtain ⟨v1919, c1920⟩ : ∃ v, I1908 a0 9 = v := ⟨_, rfl⟩
    have b1921 := iv15_9 hS1915.1 ta0 c1920
    obtain ⟨v1922, c1923⟩ : ∃ v, I1908 a0 13 = v := ⟨_, rfl⟩
    obtain ⟨v1924, c1925⟩ : ∃ v, I1908 a0 14 = v := ⟨_, rfl⟩
    (try rw [c1920] at ov1918)
    (try rw [c1923] at ov1918)
    (try rw [c1925] at ov1918)
    (try rw [c1898] at ov1918)
    (try rw [c1901] at ov1918)
    (try rw [c1903] at ov1918)
    refine tr_istore dX12_readTurner_133 (by decide) (by decide) ?_
    refine tr_aload_n dX12_readTurner_135 hl0 ?_
    refine tr_ldcwS dX12_readTurner_136 ld12_327 ?_
    refine q_iconst dX12_readTurner_139 (by decide) ?_
    intro v1926 h1927
    refine q_bipush dX12_readTurner_140 (by decide +kernel) ?_
    intro v1928 h1929
    refine q_callVi hE (M' := mX12_readPart) (as := [_, _, _]) dX12_readTurner_142 lk12_249 inX12_readPart seX12_readPart myX12_readPart (by decide) ⟨by decide, by decide⟩ rfl (kR15 hS1915.1 ta0) (Nat.le_of_ble_eq_true rfl) rfl rfl (by decide) (by decide) (k_X12_readPart hS1915.1 ta0 (by decide)) ?_
    rintro v1934 cn' K' N' I1930 R1931 L1932 ⟨rfl, rfl, rfl, rfl, g1933, p1935, w1936, -⟩
    have hS1937 := hS1915.tr g1933 (by decide +kernel) (by decide +kernel)
    have c1938 : I1930 a1 4 = v45 := (g1933.cell ta1 (by decide +kernel)).trans c1916
    have b1939 : 1 ≤ v1934.toInt ∧ v1934.toInt ≤ 20 := by omega
    clear p1935
    have ov1940 := w1936.over (by rw [c1920]; omega)
    obtain ⟨v1941, c1942⟩ : ∃ v, I1930 a0 9 = v := ⟨_, rfl⟩
    have b1943 := iv15_9 hS1937.1 ta0 c1942
    obtain ⟨v1944, c1945⟩ : ∃ v, I1930 a0 13 = v := ⟨_, rfl⟩
    obtain ⟨v1946, c1947⟩ : ∃ v, I1930 a0 14 = v := ⟨_, rfl⟩
    (try rw [c1942] at ov1940)
    (try rw [c1945] at ov1940)
    (try rw [c1947] at ov1940)
    (try rw [c1920] at ov1940)
    (try rw [c1923] at ov1940)
    (try rw [c1925] at ov1940)
    refine tr_istore dX12_readTurner_145 (by decide) (by decide) ?_
    refine tr_aload_n dX12_readTurner_147 hl0 ?_
    refine tr_ldcS dX12_readTurner_148 ld12_253 ?_
    refine q_callVv hE (M' := mX12_needs) (as := [_]) dX12_readTurner_150 lk12_157 inX12_needs seX12_needs myX12_needs (by decide) ⟨by decide, by decide⟩ rfl (kR15 hS1937.1 ta0) (Nat.le_of_ble_eq_true rfl) rfl rfl (by decide) (by decide) (k_X12_needs hS1937.1 ta0 (by decide)) ?_
    rintro cn' K' N' I1948 R1949 L1950 ⟨rfl, rfl, rfl, rfl, g1951, w1953, -⟩
    have hS1954 := hS1937.tr g1951 (by decide +kernel) (by decide +kernel)
    have c1955 : I1948 a1 4 = v45 := (g1951.cell ta1 (by decide +kernel)).trans c1938
    have ov1956 := w1953.over (by rw [c1942]; omega)
    obtain ⟨v1957, c1958⟩ : ∃ v, I1948 a0 9 = v := ⟨_, rfl⟩
    have b1959 := iv15_9 hS1954.1 ta0 c1958
    obtain ⟨v1960, c1961⟩ : ∃ v, I1948 a0 13 = v := ⟨_, rfl⟩
    obtain ⟨v1962, c1963⟩ : ∃ v, I1948 a0 14 = v := ⟨_, rfl⟩
    (try rw [c1958] at ov1956)
    (try rw [c1961] at ov1956)
    (try rw [c1963] at ov1956)
    (try rw [c1942] at ov1956)
    (try rw [c1945] at ov1956)
    (try rw [c1947] at ov1956)
    refine q_iconst dX12_readTurner_153 (by decide) ?_
    intro v1964 h1965
    refine tr_istore dX12_readTurner_154 (by decide) (by decide) ?_
    refine q_iconst dX12_readTurner_156 (by decide) ?_
    intro v1966 h1967
    refine tr_istore dX12_readTurner_157 (by decide) (by decide) ?_
    refine tr_iload dX12_readTurner_159 rfl ?_
    refine q_if_eq 227 dX12_readTurner_161 (by decide) (fun h1968 => ?_) (fun h1968 => ?_)
    · skip
      exfalso; omega
    · skip
      refine tr_aload_n dX12_readTurner_164 hl0 ?_
      refine q_getI dX12_readTurner_165 fl12_99 (kR15 hS1954.1 ta0) c1958 ?_
      refine q_iconst dX12_readTurner_168 (by decide) ?_
      intro v1969 h1970
      refine q_icmp_eq 227 dX12_readTurner_169 (by decide) (fun h1971 => ?_) (fun h1971 => ?_)
      · skip
        refine tr_aload_n dX12_readTurner_227 hl0 ?_
        refine q_getI dX12_readTurner_228 fl12_99 (kR15 hS1954.1 ta0) c1958 ?_
        refine q_iconst dX12_readTurner_231 (by decide) ?_
        intro v1972 h1973
        refine q_icmp_ne 236 dX12_readTurner_232 (by decide) (fun h1974 => ?_) (fun h1974 => ?_)
        · skip
          exfalso; omega
        · skip
          have eF := hF.eq
          have eP := hP.eq
          obtain ⟨v1975, c1976⟩ : ∃ v, I1948 a0 10 = v := ⟨_, rfl⟩
          have b1977 := iv15_10 hS1954.1 ta0 c1976
          obtain ⟨v1978, c1979⟩ : ∃ v, I1948 a0 11 = v := ⟨_, rfl⟩
          obtain ⟨y1980, c1981⟩ : ∃ v, L1950 a0 15 = v := ⟨_, rfl⟩
          obtain ⟨v1982, c1983⟩ : ∃ v, I1948 a0 12 = v := ⟨_, rfl⟩
          obtain ⟨v1984, c1985⟩ : ∃ v, I1948 a0 8 = v := ⟨_, rfl⟩
          have b1986 := iv15_8 hS1954.1 ta0 c1985
          exact tr_vret hZ dX12_readTurner_235 rfl (by decide) (by decide) (hq _ _ _ ⟨hS1954, (Or.inr (⟨(by (try rw [w76]); first | done | omega), (by (try rw [w76]); (try rw [c1958]); first | done | omega), (by (try rw [w76]); (try rw [c1961]); first | done | omega), (by (try rw [w76]); (try rw [c1963]); first | done | omega), trivial⟩)), trivial⟩)
      · skip
        exfalso; omega
  · skip
    obtain ⟨v1987, c1988⟩ : ∃ v, I92 a0 9 = v := ⟨_, rfl⟩
    have b1989 := iv15_9 hS100.1 ta0 c1988
    rw [c1988] at p126
    obtain ⟨v1990, c1991⟩ : ∃ v, I92 a0 13 = v := ⟨_, rfl⟩
    rw [c1991] at p127
    obtain ⟨v1992, c1993⟩ : ∃ v, I92 a0 14 = v := ⟨_, rfl⟩
    rw [c1993] at p128
    replace hF := hF.neg (by omega)
    replace hP := hP.neg (by omega)
    replace hF := hF.pos (by omega)
    replace hP := hP.pos (by omega)
    refine tr_istore dX12_readTurner_101 (by decide) (by decide) ?_
    refine tr_aload_n dX12_readTurner_103 hl0 ?_
    refine tr_ldcwS dX12_readTurner_104 ld12_272 ?_
    refine tr_iload dX12_readTurner_107 rfl ?_
    refine q_iconst dX12_readTurner_109 (by decide) ?_
    intro v1994 h1995
    refine q_iaddE dX12_readTurner_110 (by intros; omega) ?_
    intro v1996 h1997
    refine tr_aload_n dX12_readTurner_111 hl0 ?_
    refine tr_getR dX12_readTurner_112 fl12_188 (kR15 hS100.1 ta0) d2 ?_
    refine q_getI dX12_readTurner_115 fl12_192 (kR14 hS100.1 ta1) ((hS100.cell ta1 (by decide +kernel)).trans c30) ?_
    refine q_callVi hE (M' := mX12_readPart) (as := [_, _, _]) dX12_readTurner_118 lk12_249 inX12_readPart seX12_readPart myX12_readPart (by decide) ⟨by decide, by decide⟩ rfl (kR15 hS100.1 ta0) (Nat.le_of_ble_eq_true rfl) rfl rfl (by decide) (by decide) (k_X12_readPart hS100.1 ta0 (by decide)) ?_
    rintro v2002 cn' K' N' I1998 R1999 L2000 ⟨rfl, rfl, rfl, rfl, g2001, p2003, w2004, -⟩
    have hS2005 := hS100.tr g2001 (by decide +kernel) (by decide +kernel)
    have c2006 : I1998 a1 4 = v45 := (g2001.cell ta1 (by decide +kernel)).trans c101
    have b2007 : 1 ≤ v2002.toInt ∧ v2002.toInt ≤ 240 := by omega
    clear p2003
    have ov2008 := w2004.over (by rw [c1988]; omega)
    obtain ⟨v2009, c2010⟩ : ∃ v, I1998 a0 9 = v := ⟨_, rfl⟩
    have b2011 := iv15_9 hS2005.1 ta0 c2010
    obtain ⟨v2012, c2013⟩ : ∃ v, I1998 a0 13 = v := ⟨_, rfl⟩
    obtain ⟨v2014, c2015⟩ : ∃ v, I1998 a0 14 = v := ⟨_, rfl⟩
    (try rw [c2010] at ov2008)
    (try rw [c2013] at ov2008)
    (try rw [c2015] at ov2008)
    (try rw [c1988] at ov2008)
    (try rw [c1991] at ov2008)
    (try rw [c1993] at ov2008)
    refine tr_istore dX12_readTurner_121 (by decide) (by decide) ?_
    refine tr_aload_n dX12_readTurner_123 hl0 ?_
    refine tr_ldcwS dX12_readTurner_124 ld12_325 ?_
    refine q_iconst dX12_readTurner_127 (by decide) ?_
    intro v2016 h2017
    refine q_bipush dX12_readTurner_128 (by decide +kernel) ?_
    intro v2018 h2019
    refine q_callVi hE (M' := mX12_readPart) (as := [_, _, _]) dX12_readTurner_130 lk12_249 inX12_readPart seX12_readPart myX12_readPart (by decide) ⟨by decide, by decide⟩ rfl (kR15 hS2005.1 ta0) (Nat.le_of_ble_eq_true rfl) rfl rfl (by decide) (by decide) (k_X12_readPart hS2005.1 ta0 (by decide)) ?_
    rintro v2024 cn' K' N' I2020 R2021 L2022 ⟨rfl, rfl, rfl, rfl, g2023, p2025, w2026, -⟩
    have hS2027 := hS2005.tr g2023 (by decide +kernel) (by decide +kernel)
    have c2028 : I2020 a1 4 = v45 := (g2023.cell ta1 (by decide +kernel)).trans c2006
    have b2029 : 1 ≤ v2024.toInt ∧ v2024.toInt ≤ 8 := by omega
    clear p2025
    have ov2030 := w2026.over (by rw [c2010]; omega)
    obtain ⟨v2031, c2032⟩ : ∃ v, I2020 a0 9 = v := ⟨_, rfl⟩
    have b2033 := iv15_9 hS2027.1 ta0 c2032
    obtain ⟨v2034, c2035⟩ : ∃ v, I2020 a0 13 = v := ⟨_, rfl⟩
    obtain ⟨v2036, c2037⟩ : ∃ v, I2020 a0 14 = v := ⟨_, rfl⟩
    (try rw [c2032] at ov2030)
    (try rw [c2035] at ov2030)
    (try rw [c2037] at ov2030)
    (try rw [c2010] at ov2030)
    (try rw [c2013] at ov2030)
    (try rw [c2015] at ov2030)
    refine tr_istore dX12_readTurner_133 (by decide) (by decide) ?_
    refine tr_aload_n dX12_readTurner_135 hl0 ?_
    refine tr_ldcwS dX12_readTurner_136 ld12_327 ?_
    refine q_iconst dX12_readTurner_139 (by decide) ?_
    intro v2038 h2039
    refine q_bipush dX12_readTurner_140 (by decide +kernel) ?_
    intro v2040 h2041
    refine q_callVi hE (M' := mX12_readPart) (as := [_, _, _]) dX12_readTurner_142 lk12_249 inX12_readPart seX12_readPart myX12_readPart (by decide) ⟨by decide, by decide⟩ rfl (kR15 hS2027.1 ta0) (Nat.le_of_ble_eq_true rfl) rfl rfl (by decide) (by decide) (k_X12_readPart hS2027.1 ta0 (by decide)) ?_
    rintro v2046 cn' K' N' I2042 R2043 L2044 ⟨rfl, rfl, rfl, rfl, g2045, p2047, w2048, -⟩
    have hS2049 := hS2027.tr g2045 (by decide +kernel) (by decide +kernel)
    have c2050 : I2042 a1 4 = v45 := (g2045.cell ta1 (by decide +kernel)).trans c2028
    have b2051 : 1 ≤ v2046.toInt ∧ v2046.toInt ≤ 20 := by omega
    clear p2047
    have ov2052 := w2048.over (by rw [c2032]; omega)
    obtain ⟨v2053, c2054⟩ : ∃ v, I2042 a0 9 = v := ⟨_, rfl⟩
    have b2055 := iv15_9 hS2049.1 ta0 c2054
    obtain ⟨v2056, c2057⟩ : ∃ v, I2042 a0 13 = v := ⟨_, rfl⟩
    obtain ⟨v2058, c2059⟩ : ∃ v, I2042 a0 14 = v := ⟨_, rfl⟩
    (try rw [c2054] at ov2052)
    (try rw [c2057] at ov2052)
    (try rw [c2059] at ov2052)
    (try rw [c2032] at ov2052)
    (try rw [c2035] at ov2052)
    (try rw [c2037] at ov2052)
    refine tr_istore dX12_readTurner_145 (by decide) (by decide) ?_
    refine tr_aload_n dX12_readTurner_147 hl0 ?_
    refine tr_ldcS dX12_readTurner_148 ld12_253 ?_
    refine q_callVv hE (M' := mX12_needs) (as := [_]) dX12_readTurner_150 lk12_157 inX12_needs seX12_needs myX12_needs (by decide) ⟨by decide, by decide⟩ rfl (kR15 hS2049.1 ta0) (Nat.le_of_ble_eq_true rfl) rfl rfl (by decide) (by decide) (k_X12_needs hS2049.1 ta0 (by decide)) ?_
    rintro cn' K' N' I2060 R2061 L2062 ⟨rfl, rfl, rfl, rfl, g2063, w2065, -⟩
    have hS2066 := hS2049.tr g2063 (by decide +kernel) (by decide +kernel)
    have c2067 : I2060 a1 4 = v45 := (g2063.cell ta1 (by decide +kernel)).trans c2050
    have ov2068 := w2065.over (by rw [c2054]; omega)
    obtain ⟨v2069, c2070⟩ : ∃ v, I2060 a0 9 = v := ⟨_, rfl⟩
    have b2071 := iv15_9 hS2066.1 ta0 c2070
    obtain ⟨v2072, c2073⟩ : ∃ v, I2060 a0 13 = v := ⟨_, rfl⟩
    obtain ⟨v2074, c2075⟩ : ∃ v, I2060 a0 14 = v := ⟨_, rfl⟩
    (try rw [c2070] at ov2068)
    (try rw [c2073] at ov2068)
    (try rw [c2075] at ov2068)
    (try rw [c2054] at ov2068)
    (try rw [c2057] at ov2068)
    (try rw [c2059] at ov2068)
    refine q_iconst dX12_readTurner_153 (by decide) ?_
    intro v2076 h2077
    refine tr_istore dX12_readTurner_154 (by decide) (by decide) ?_
    refine q_iconst dX12_readTurner_156 (by decide) ?_
    intro v2078 h2079
    refine tr_istore dX12_readTurner_157 (by decide) (by decide) ?_
    refine tr_iload dX12_readTurner_159 rfl ?_
    refine q_if_eq 227 dX12_readTurner_161 (by decide) (fun h2080 => ?_) (fun h2080 => ?_)
    · skip
      exfalso; omega
    · skip
      refine tr_aload_n dX12_readTurner_164 hl0 ?_
      refine q_getI dX12_readTurner_165 fl12_99 (kR15 hS2066.1 ta0) c2070 ?_
      refine q_iconst dX12_readTurner_168 (by decide) ?_
      intro v2081 h2082
      refine q_icmp_eq 227 dX12_readTurner_169 (by decide) (fun h2083 => ?_) (fun h2083 => ?_)
      · skip
        refine tr_aload_n dX12_readTurner_227 hl0 ?_
        refine q_getI dX12_readTurner_228 fl12_99 (kR15 hS2066.1 ta0) c2070 ?_
        refine q_iconst dX12_readTurner_231 (by decide) ?_
        intro v2084 h2085
        refine q_icmp_ne 236 dX12_readTurner_232 (by decide) (fun h2086 => ?_) (fun h2086 => ?_)
        · skip
          exfalso; omega
        · skip
          have eF := hF.eq
          have eP := hP.eq
          obtain ⟨v2087, c2088⟩ : ∃ v, I2060 a0 10 = v := ⟨_, rfl⟩
          have b2089 := iv15_10 hS2066.1 ta0 c2088
          obtain ⟨v2090, c2091⟩ : ∃ v, I2060 a0 11 = v := ⟨_, rfl⟩
          obtain ⟨y2092, c2093⟩ : ∃ v, L2062 a0 15 = v := ⟨_, rfl⟩
          obtain ⟨v2094, c2095⟩ : ∃ v, I2060 a0 12 = v := ⟨_, rfl⟩
          obtain ⟨v2096, c2097⟩ : ∃ v, I2060 a0 8 = v := ⟨_, rfl⟩
          have b2098 := iv15_8 hS2066.1 ta0 c2097
          exact tr_vret hZ dX12_readTurner_235 rfl (by decide) (by decide) (hq _ _ _ ⟨hS2066, (Or.inr (⟨(by (try rw [w76]); first | done | omega), (by (try rw [w76]); (try rw [c2070]); first | done | omega), (by (try rw [w76]); (try rw [c2073]); first | done | omega), (by (try rw [w76]); (try rw [c2075]); first | done | omega), trivial⟩)), trivial⟩)
      · skip
        exfalso; omega
  · skip
    obtain ⟨v2099, c2100⟩ : ∃ v, I92 a0 9 = v := ⟨_, rfl⟩
    have b2101 := iv15_9 hS100.1 ta0 c2100
    rw [c2100] at p134
    obtain ⟨v2102, c2103⟩ : ∃ v, I92 a0 13 = v := ⟨_, rfl⟩
    rw [c2103] at p135
    obtain ⟨v2104, c2105⟩ : ∃ v, I92 a0 14 = v := ⟨_, rfl⟩
    rw [c2105] at p136
    replace hF := hF.neg (by omega)
    replace hP := hP.neg (by omega)
    replace hF := hF.neg (by omega)
    replace hP := hP.neg (by omega)
    replace hF := hF.pos (by omega)
    replace hP := hP.pos (by omega)
    refine tr_istore dX12_readTurner_101 (by decide) (by decide) ?_
    refine tr_aload_n dX12_readTurner_103 hl0 ?_
    refine tr_ldcwS dX12_readTurner_104 ld12_272 ?_
    refine tr_iload dX12_readTurner_107 rfl ?_
    refine q_iconst dX12_readTurner_109 (by decide) ?_
    intro v2106 h2107
    refine q_iaddE dX12_readTurner_110 (by intros; omega) ?_
    intro v2108 h2109
    refine tr_aload_n dX12_readTurner_111 hl0 ?_
    refine tr_getR dX12_readTurner_112 fl12_188 (kR15 hS100.1 ta0) d2 ?_
    refine q_getI dX12_readTurner_115 fl12_192 (kR14 hS100.1 ta1) ((hS100.cell ta1 (by decide +kernel)).trans c30) ?_
    refine q_callVi hE (M' := mX12_readPart) (as := [_, _, _]) dX12_readTurner_118 lk12_249 inX12_readPart seX12_readPart myX12_readPart (by decide) ⟨by decide, by decide⟩ rfl (kR15 hS100.1 ta0) (Nat.le_of_ble_eq_true rfl) rfl rfl (by decide) (by decide) (k_X12_readPart hS100.1 ta0 (by decide)) ?_
    rintro v2114 cn' K' N' I2110 R2111 L2112 ⟨rfl, rfl, rfl, rfl, g2113, p2115, w2116, -⟩
    have hS2117 := hS100.tr g2113 (by decide +kernel) (by decide +kernel)
    have c2118 : I2110 a1 4 = v45 := (g2113.cell ta1 (by decide +kernel)).trans c101
    have b2119 : 1 ≤ v2114.toInt ∧ v2114.toInt ≤ 240 := by omega
    clear p2115
    have ov2120 := w2116.over (by rw [c2100]; omega)
    obtain ⟨v2121, c2122⟩ : ∃ v, I2110 a0 9 = v := ⟨_, rfl⟩
    have b2123 := iv15_9 hS2117.1 ta0 c2122
    obtain ⟨v2124, c2125⟩ : ∃ v, I2110 a0 13 = v := ⟨_, rfl⟩
    obtain ⟨v2126, c2127⟩ : ∃ v, I2110 a0 14 = v := ⟨_, rfl⟩
    (try rw [c2122] at ov2120)
    (try rw [c2125] at ov2120)
    (try rw [c2127] at ov2120)
    (try rw [c2100] at ov2120)
    (try rw [c2103] at ov2120)
    (try rw [c2105] at ov2120)
    refine tr_istore dX12_readTurner_121 (by decide) (by decide) ?_
    refine tr_aload_n dX12_readTurner_123 hl0 ?_
    refine tr_ldcwS dX12_readTurner_124 ld12_325 ?_
    refine q_iconst dX12_readTurner_127 (by decide) ?_
    intro v2128 h2129
    refine q_bipush dX12_readTurner_128 (by decide +kernel) ?_
    intro v2130 h2131
    refine q_callVi hE (M' := mX12_readPart) (as := [_, _, _]) dX12_readTurner_130 lk12_249 inX12_readPart seX12_readPart myX12_readPart (by decide) ⟨by decide, by decide⟩ rfl (kR15 hS2117.1 ta0) (Nat.le_of_ble_eq_true rfl) rfl rfl (by decide) (by decide) (k_X12_readPart hS2117.1 ta0 (by decide)) ?_
    rintro v2136 cn' K' N' I2132 R2133 L2134 ⟨rfl, rfl, rfl, rfl, g2135, p2137, w2138, -⟩
    have hS2139 := hS2117.tr g2135 (by decide +kernel) (by decide +kernel)
    have c2140 : I2132 a1 4 = v45 := (g2135.cell ta1 (by decide +kernel)).trans c2118
    have b2141 : 1 ≤ v2136.toInt ∧ v2136.toInt ≤ 8 := by omega
    clear p2137
    have ov2142 := w2138.over (by rw [c2122]; omega)
    obtain ⟨v2143, c2144⟩ : ∃ v, I2132 a0 9 = v := ⟨_, rfl⟩
    have b2145 := iv15_9 hS2139.1 ta0 c2144
    obtain ⟨v2146, c2147⟩ : ∃ v, I2132 a0 13 = v := ⟨_, rfl⟩
    obtain ⟨v2148, c2149⟩ : ∃ v, I2132 a0 14 = v := ⟨_, rfl⟩
    (try rw [c2144] at ov2142)
    (try rw [c2147] at ov2142)
    (try rw [c2149] at ov2142)
    (try rw [c2122] at ov2142)
    (try rw [c2125] at ov2142)
    (try rw [c2127] at ov2142)
    refine tr_istore dX12_readTurner_133 (by decide) (by decide) ?_
    refine tr_aload_n dX12_readTurner_135 hl0 ?_
    refine tr_ldcwS dX12_readTurner_136 ld12_327 ?_
    refine q_iconst dX12_readTurner_139 (by decide) ?_
    intro v2150 h2151
    refine q_bipush dX12_readTurner_140 (by decide +kernel) ?_
    intro v2152 h2153
    refine q_callVi hE (M' := mX12_readPart) (as := [_, _, _]) dX12_readTurner_142 lk12_249 inX12_readPart seX12_readPart myX12_readPart (by decide) ⟨by decide, by decide⟩ rfl (kR15 hS2139.1 ta0) (Nat.le_of_ble_eq_true rfl) rfl rfl (by decide) (by decide) (k_X12_readPart hS2139.1 ta0 (by decide)) ?_
    rintro v2158 cn' K' N' I2154 R2155 L2156 ⟨rfl, rfl, rfl, rfl, g2157, p2159, w2160, -⟩
    have hS2161 := hS2139.tr g2157 (by decide +kernel) (by decide +kernel)
    have c2162 : I2154 a1 4 = v45 := (g2157.cell ta1 (by decide +kernel)).trans c2140
    have b2163 : 1 ≤ v2158.toInt ∧ v2158.toInt ≤ 20 := by omega
    clear p2159
    have ov2164 := w2160.over (by rw [c2144]; omega)
    obtain ⟨v2165, c2166⟩ : ∃ v, I2154 a0 9 = v := ⟨_, rfl⟩
    have b2167 := iv15_9 hS2161.1 ta0 c2166
    obtain ⟨v2168, c2169⟩ : ∃ v, I2154 a0 13 = v := ⟨_, rfl⟩
    obtain ⟨v2170, c2171⟩ : ∃ v, I2154 a0 14 = v := ⟨_, rfl⟩
    (try rw [c2166] at ov2164)
    (try rw [c2169] at ov2164)
    (try rw [c2171] at ov2164)
    (try rw [c2144] at ov2164)
    (try rw [c2147] at ov2164)
    (try rw [c2149] at ov2164)
    refine tr_istore dX12_readTurner_145 (by decide) (by decide) ?_
    refine tr_aload_n dX12_readTurner_147 hl0 ?_
    refine tr_ldcS dX12_readTurner_148 ld12_253 ?_
    refine q_callVv hE (M' := mX12_needs) (as := [_]) dX12_readTurner_150 lk12_157 inX12_needs seX12_needs myX12_needs (by decide) ⟨by decide, by decide⟩ rfl (kR15 hS2161.1 ta0) (Nat.le_of_ble_eq_true rfl) rfl rfl (by decide) (by decide) (k_X12_needs hS2161.1 ta0 (by decide)) ?_
    rintro cn' K' N' I2172 R2173 L2174 ⟨rfl, rfl, rfl, rfl, g2175, w2177, -⟩
    have hS2178 := hS2161.tr g2175 (by decide +kernel) (by decide +kernel)
    have c2179 : I2172 a1 4 = v45 := (g2175.cell ta1 (by decide +kernel)).trans c2162
    have ov2180 := w2177.over (by rw [c2166]; omega)
    obtain ⟨v2181, c2182⟩ : ∃ v, I2172 a0 9 = v := ⟨_, rfl⟩
    have b2183 := iv15_9 hS2178.1 ta0 c2182
    obtain ⟨v2184, c2185⟩ : ∃ v, I2172 a0 13 = v := ⟨_, rfl⟩
    obtain ⟨v2186, c2187⟩ : ∃ v, I2172 a0 14 = v := ⟨_, rfl⟩
    (try rw [c2182] at ov2180)
    (try rw [c2185] at ov2180)
    (try rw [c2187] at ov2180)
    (try rw [c2166] at ov2180)
    (try rw [c2169] at ov2180)
    (try rw [c2171] at ov2180)
    refine q_iconst dX12_readTurner_153 (by decide) ?_
    intro v2188 h2189
    refine tr_istore dX12_readTurner_154 (by decide) (by decide) ?_
    refine q_iconst dX12_readTurner_156 (by decide) ?_
    intro v2190 h2191
    refine tr_istore dX12_readTurner_157 (by decide) (by decide) ?_
    refine tr_iload dX12_readTurner_159 rfl ?_
    refine q_if_eq 227 dX12_readTurner_161 (by decide) (fun h2192 => ?_) (fun h2192 => ?_)
    · skip
      exfalso; omega
    · skip
      refine tr_aload_n dX12_readTurner_164 hl0 ?_
      refine q_getI dX12_readTurner_165 fl12_99 (kR15 hS2178.1 ta0) c2182 ?_
      refine q_iconst dX12_readTurner_168 (by decide) ?_
      intro v2193 h2194
      refine q_icmp_eq 227 dX12_readTurner_169 (by decide) (fun h2195 => ?_) (fun h2195 => ?_)
      · skip
        refine tr_aload_n dX12_readTurner_227 hl0 ?_
        refine q_getI dX12_readTurner_228 fl12_99 (kR15 hS2178.1 ta0) c2182 ?_
        refine q_iconst dX12_readTurner_231 (by decide) ?_
        intro v2196 h2197
        refine q_icmp_ne 236 dX12_readTurner_232 (by decide) (fun h2198 => ?_) (fun h2198 => ?_)
        · skip
          exfalso; omega
        · skip
          have eF := hF.eq
          have eP := hP.eq
          obtain ⟨v2199, c2200⟩ : ∃ v, I2172 a0 10 = v := ⟨_, rfl⟩
          have b2201 := iv15_10 hS2178.1 ta0 c2200
          obtain ⟨v2202, c2203⟩ : ∃ v, I2172 a0 11 = v := ⟨_, rfl⟩
          obtain ⟨y2204, c2205⟩ : ∃ v, L2174 a0 15 = v := ⟨_, rfl⟩
          obtain ⟨v2206, c2207⟩ : ∃ v, I2172 a0 12 = v := ⟨_, rfl⟩
          obtain ⟨v2208, c2209⟩ : ∃ v, I2172 a0 8 = v := ⟨_, rfl⟩
          have b2210 := iv15_8 hS2178.1 ta0 c2209
          exact tr_vret hZ dX12_readTurner_235 rfl (by decide) (by decide) (hq _ _ _ ⟨hS2178, (Or.inr (⟨(by (try rw [w76]); first | done | omega), (by (try rw [w76]); (try rw [c2182]); first | done | omega), (by (try rw [w76]); (try rw [c2185]); first | done | omega), (by (try rw [w76]); (try rw [c2187]); first | done | omega), trivial⟩)), trivial⟩)
      · skip
        exfalso; omega
def wik_X12_readTurner : List Nat := [900, 903, 968, 969, 970, 971, 972, 973, 974, 4095, 4159, 4223, 4287, 4351, 4415, 4799, 4863]
def wrk_X12_readTurner : List Nat := []
def wlk_X12_readTurner : List Nat := [975, 4735]
set_option maxHeartbeats 4000000 in
theorem fk_X12_readTurner {l : Launch} {T : Nat → Nat} {cn : Nat} {K N : Nat → Nat} {I0 : cz_I} {R0 : cz_R} {L0 : cz_L} (hW0 : Wf T cn K N I0 R0 0) (gB : cz_B) (gs : Int) (gQ : Nat → Int) {a0 : Nat} (ta0 : T a0 = 15) (hT : ∀ t, R0 a0 5 = some t → Tx I0 t gB) (hN : ∀ b, R0 a0 4 = some b → NmM I0 R0 L0 b gQ) (pre0 : (I0 a0 9).toInt = (tkM gB gs)) (pre1 : (I0 a0 9).toInt ≤ 4) (pre2 : (I0 a0 10).toInt = (tkS gB gs)) (pre3 : (I0 a0 11).toInt = (tkG gB gs)) (pre4 : (AtW ((tkK gB gs)) ((L0 a0 15).toInt) ((tkW gB gs)))) (pre5 : (AtV ((tkK gB gs)) ((I0 a0 12).toInt) ((tkV gB gs)))) (pre6 : (AtN ((tkK gB gs)) ((I0 a0 8).toInt) ((tkN gB gs)))) (pre7 : (I0 a0 7).toInt = (gB.2)) (pre8 : ∀ b1, R0 a0 4 = some b1 → (I0 b1 0).toInt = (gQ 0)) (pre9 : ∀ b1, R0 a0 4 = some b1 → (I0 b1 1).toInt = (gQ 1)) (pre10 : ∀ b1, R0 a0 4 = some b1 → (I0 b1 2).toInt = (gQ 2)) (pre11 : ∀ b1, R0 a0 4 = some b1 → (I0 b1 3).toInt = (gQ 3)) (pre12 : ∀ b1, R0 a0 4 = some b1 → (I0 b1 4).toInt = (gQ 4)) (pre13 : ∀ b1, R0 a0 4 = some b1 → (I0 b1 5).toInt = (gQ 5)) (pre14 : ∀ b1, R0 a0 4 = some b1 → (I0 b1 6).toInt = (gQ 6)) (pre15 : ∀ b1, R0 a0 4 = some b1 → (I0 b1 9).toInt = (gQ 8)) (pre16 : (Q7M ((gQ 0)) ((gQ 7)))) (pre17 : (tkK gB gs) = 1) (pre18 : (srt gB gs) = 7) (nn4 : ∃ b, R0 a0 4 = some b) : ConE l mX12_readTurner [.ref a0] cn K N I0 R0 L0 (ca_v (fun cn' K' N' I' R' L' => cn = cn' ∧ K = K' ∧ N = N' ∧ R0 = R' ∧ St T cn K N 0 wik_X12_readTurner wrk_X12_readTurner I0 R0 I' R0 ∧ ((((lnF gB gQ gs) = 0) ∧ (∀ b1, R0 a0 4 = some b1 → (I' b1 0).toInt = (lnQ gB gQ gs 0)) ∧ (∀ b1, R0 a0 4 = some b1 → (I' b1 1).toInt = (lnQ gB gQ gs 1)) ∧ (∀ b1, R0 a0 4 = some b1 → (I' b1 2).toInt = (lnQ gB gQ gs 2)) ∧ (∀ b1, R0 a0 4 = some b1 → (I' b1 3).toInt = (lnQ gB gQ gs 3)) ∧ (∀ b1, R0 a0 4 = some b1 → (I' b1 4).toInt = (lnQ gB gQ gs 4)) ∧ (∀ b1, R0 a0 4 = some b1 → (I' b1 5).toInt = (lnQ gB gQ gs 5)) ∧ (∀ b1, R0 a0 4 = some b1 → (I' b1 6).toInt = (lnQ gB gQ gs 6)) ∧ (∀ b1, R0 a0 4 = some b1 → (I' b1 9).toInt = (lnQ gB gQ gs 8)) ∧ ((I' a0 13).toInt = (I0 a0 13).toInt) ∧ ((I' a0 9).toInt = (tkM gB (lnS gB gQ gs))) ∧ ((I' a0 9).toInt ≤ 4) ∧ ((I' a0 10).toInt = (tkS gB (lnS gB gQ gs))) ∧ ((I' a0 11).toInt = (tkG gB (lnS gB gQ gs))) ∧ ((AtW ((tkK gB (lnS gB gQ gs))) ((L' a0 15).toInt) ((tkW gB (lnS gB gQ gs))))) ∧ ((AtV ((tkK gB (lnS gB gQ gs))) ((I' a0 12).toInt) ((tkV gB (lnS gB gQ gs))))) ∧ ((AtN ((tkK gB (lnS gB gQ gs))) ((I' a0 8).toInt) ((tkN gB (lnS gB gQ gs))))) ∧ LgS T wlk_X12_readTurner L0 L' ∧ (∀ b, R0 a0 4 = some b → NmM I' R0 L' b (lnQ gB gQ gs)) ∧ True) ∨ (((lnF gB gQ gs) ≠ 0) ∧ ((I' a0 9).toInt = 5) ∧ ((I' a0 13).toInt = (lnF gB gQ gs)) ∧ ((I' a0 14).toInt = (lnP gB gQ gs)) ∧ True)) ∧ True)) := by
  refine ConE.of (by decide +kernel) rfl (Nat.le_of_ble_eq_true rfl) rfl (fun X hX hZ hE => ?_)
  subst hX
  have hS0 : St T cn K N 0 wik_X12_readTurner wrk_X12_readTurner I0 R0 I0 R0 := St.rf0 hW0
  have hL0 : LgS T wlk_X12_readTurner L0 L0 := LgS.rf0
  obtain ⟨a1, d2⟩ := nn4
  have ta1 : T a1 = 14 := hW0.rsN ta0 rfl d2
  obtain ⟨v3, c4⟩ : ∃ v, I0 a0 9 = v := ⟨_, rfl⟩
  have b5 := iv15_9 hS0.1 ta0 c4
  have p6 := pre0
  rw [c4] at p6
  have p7 := pre1
  rw [c4] at p7
  obtain ⟨v8, c9⟩ : ∃ v, I0 a0 10 = v := ⟨_, rfl⟩
  have b10 := iv15_10 hS0.1 ta0 c9
  have p11 := pre2
  rw [c9] at p11
  obtain ⟨v12, c13⟩ : ∃ v, I0 a0 11 = v := ⟨_, rfl⟩
  have p14 := pre3
  rw [c13] at p14
  obtain ⟨y15, c16⟩ : ∃ v, L0 a0 15 = v := ⟨_, rfl⟩
  have p17 := pre4
  rw [c16] at p17
  obtain ⟨v18, c19⟩ : ∃ v, I0 a0 12 = v := ⟨_, rfl⟩
  have p20 := pre5
  rw [c19] at p20
  obtain ⟨v21, c22⟩ : ∃ v, I0 a0 8 = v := ⟨_, rfl⟩
  have b23 := iv15_8 hS0.1 ta0 c22
  have p24 := pre6
  rw [c22] at p24
  obtain ⟨v25, c26⟩ : ∃ v, I0 a0 7 = v := ⟨_, rfl⟩
  have b27 := iv15_7 hW0 ta0 c26
  have p28 := pre7
  rw [c26] at p28
  obtain ⟨v29, c30⟩ : ∃ v, I0 a1 0 = v := ⟨_, rfl⟩
  have b31 := iv14_0 hW0 ta1 c30
  have p32 := pre8 _ d2
  rw [c30] at p32
  obtain ⟨v33, c34⟩ : ∃ v, I0 a1 1 = v := ⟨_, rfl⟩
  have b35 := iv14_1 hW0 ta1 c34
  have p36 := pre9 _ d2
  rw [c34] at p36
  obtain ⟨v37, c38⟩ : ∃ v, I0 a1 2 = v := ⟨_, rfl⟩
  have b39 := iv14_2 hW0 ta1 c38
  have p40 := pre10 _ d2
  rw [c38] at p40
  obtain ⟨v41, c42⟩ : ∃ v, I0 a1 3 = v := ⟨_, rfl⟩
  have b43 := iv14_3 hW0 ta1 c42
  have p44 := pre11 _ d2
  rw [c42] at p44
  obtain ⟨v45, c46⟩ : ∃ v, I0 a1 4 = v := ⟨_, rfl⟩
  have b47 := iv14_4 hS0.1 ta1 c46
  have p48 := pre12 _ d2
  rw [c46] at p48
  obtain ⟨v49, c50⟩ : ∃ v, I0 a1 5 = v := ⟨_, rfl⟩
  have b51 := iv14_5 hW0 ta1 c50
  have p52 := pre13 _ d2
  rw [c50] at p52
  obtain ⟨v53, c54⟩ : ∃ v, I0 a1 6 = v := ⟨_, rfl⟩
  have b55 := iv14_6 hW0 ta1 c54
  have p56 := pre14 _ d2
  rw [c54] at p56
  obtain ⟨v57, c58⟩ : ∃ v, I0 a1 9 = v := ⟨_, rfl⟩
  have b59 := iv14_9 hW0 ta1 c58
  have p60 := pre15 _ d2
  rw [c58] at p60
  have p61 := pre16
  have p62 := pre17
  have p63 := pre18
  obtain ⟨v64, c65⟩ : ∃ v, I0 a0 13 = v := ⟨_, rfl⟩
  have hM0 := hN _ d2
  have hF := lnF_ch gB gQ gs
  have hP := lnP_ch gB gQ gs
  replace hF := hF.neg (by omega)
  replace hP := hP.neg (by omega)
  replace hF := hF.neg (by omega)
  replace hP := hP.neg (by omega)
  refine tr_aload_n dX12_readTurner_0 rfl ?_
  refine tr_aload_n dX12_readTurner_1 rfl ?_
  refine tr_getR dX12_readTurner_2 fl12_188 (kR15 hS0.1 ta0) d2 ?_
  refine q_getI dX12_readTurner_5 fl12_315 (kR14 hS0.1 ta1) c46 ?_
  refine q_iconst dX12_readTurner_8 (by decide) ?_
  intro v66 h67
  refine q_callVv hE (M' := mX12_begins) (as := [_, _]) dX12_readTurner_9 lk12_268 inX12_begins seX12_begins myX12_begins (by decide) ⟨by decide, by decide⟩ rfl (kR15 hS0.1 ta0) (Nat.le_of_ble_eq_true rfl) rfl rfl (by decide) (by decide) (fk_X12_begins hS0.1 (gB) (gs) (gQ) ta0 (TxA.kp hT hS0 ta0 rfl rfl rfl (by decide +kernel) (by decide +kernel)) (by (try rw [c4]); first | done | omega) (by (try rw [c4]); first | done | omega) (by (try rw [c9]); first | done | omega) (by (try rw [c13]); first | done | omega) (by (try rw [c16]); first | done | assumption) (by (try rw [c19]); first | done | assumption) (by (try rw [c22]); first | done | assumption) (by (try rw [c26]); first | done | omega) (fun q0 z0 => by obtain rfl := Option.some.inj ((d2).symm.trans z0); (try rw [c30]); first | done | omega) (by first | done | omega) ⟨_, d2⟩) ?_
  rintro cn' K' N' I68 R69 L70 ⟨rfl, rfl, rfl, rfl, g71, dj74, -⟩
  have hM75 : NmM I68 R0 L0 a1 gQ := NmM.kpS hM0 g71 hS0.1 ta1 (by decide +kernel) (by decide +kernel)
  have hS76 := hS0.tr g71 (by decide +kernel) (by decide +kernel)
  have c77 : I68 a1 4 = v45 := (g71.cell ta1 (by decide +kernel)).trans c46
  rcases dj74 with ⟨p78, p79, p80, p81, p82, p83, p84, p85, p86, p87, gl88, -⟩ | ⟨p89, p90, p91, p92, -⟩ | ⟨p93, p94, p95, p96, p97, -⟩
  · skip
    have hL98 := hL0.tr gl88 (by decide +kernel)
    have hM99 : NmM I68 R0 L70 a1 gQ := NmM.kpL hM75 gl88 hS76.1 ta1 (by decide +kernel)
    obtain ⟨v100, c101⟩ : ∃ v, I68 a0 13 = v := ⟨_, rfl⟩
    rw [c101] at p80
    rw [c65] at p80
    obtain ⟨v102, c103⟩ : ∃ v, I68 a0 9 = v := ⟨_, rfl⟩
    have b104 := iv15_9 hS76.1 ta0 c103
    rw [c103] at p81
    rw [c103] at p82
    obtain ⟨v105, c106⟩ : ∃ v, I68 a0 10 = v := ⟨_, rfl⟩
    have b107 := iv15_10 hS76.1 ta0 c106
    rw [c106] at p83
    obtain ⟨v108, c109⟩ : ∃ v, I68 a0 11 = v := ⟨_, rfl⟩
    rw [c109] at p84
    obtain ⟨y110, c111⟩ : ∃ v, L70 a0 15 = v := ⟨_, rfl⟩
    rw [c111] at p85
    obtain ⟨v112, c113⟩ : ∃ v, I68 a0 12 = v := ⟨_, rfl⟩
    rw [c113] at p86
    obtain ⟨v114, c115⟩ : ∃ v, I68 a0 8 = v := ⟨_, rfl⟩
    have b116 := iv15_8 hS76.1 ta0 c115
    rw [c115] at p87
    have p117 := p61
    unfold Q7M at p117
    replace hF := hF.neg (by omega)
    replace hP := hP.neg (by omega)
    replace hF := hF.neg (by omega)
    replace hP := hP.neg (by omega)
    clear p117
    obtain ⟨w118, w119, w120, w121, w122, w123, w124, w125, w126, w127, w128, w129⟩ := lnl_7 (B := gB) (Q := gQ) (s := gs) (by omega)
    replace hF := hF.to w118 (tuF_cx gB gQ (tkN gB gs))
    replace hP := hP.to w119 (tuP_cx gB gQ (tkN gB gs))
    refine tr_aload_n dX12_readTurner_12 rfl ?_
    refine q_callVl hE (M' := mX12_readFresh) (as := []) dX12_readTurner_13 lk12_285 inX12_readFresh seX12_readFresh myX12_readFresh (by decide) ⟨by decide, by decide⟩ rfl (kR15 hS76.1 ta0) (Nat.le_of_ble_eq_true rfl) rfl rfl (by decide) (by decide) (fk_X12_readFresh hS76.1 (gB) ((tkN gB gs)) (gQ) ta0 (TxA.kp hT hS76 ta0 rfl rfl rfl (by decide +kernel) (by decide +kernel)) (fun b hb => (Option.some.inj (d2.symm.trans hb)) ▸ hM99) (by (try rw [c103]); first | done | omega) (by (try rw [c103]); first | done | omega) (by (try rw [c106]); first | done | omega) (by (try rw [c109]); first | done | omega) (by (try rw [c111]); first | done | assumption) (by (try rw [c113]); first | done | assumption) (by (try rw [c115]); first | done | assumption) (by (try rw [((hS76.cell ta0 (by decide +kernel)).trans c26)]); first | done | omega) (fun q0 z0 => by obtain rfl := Option.some.inj ((d2).symm.trans z0); (try rw [((hS76.cell ta1 (by decide +kernel)).trans c42)]); first | done | omega) (fun q0 z0 => by obtain rfl := Option.some.inj ((d2).symm.trans z0); (try rw [c77]); first | done | omega) ⟨_, d2⟩) ?_
    rintro y135 cn' K' N' I130 R131 L132 ⟨rfl, rfl, rfl, rfl, g133, dj136, -⟩
    have hM137 : NmM I130 R0 L70 a1 gQ := NmM.kpS hM99 g133 hS76.1 ta1 (by decide +kernel) (by decide +kernel)
    have hS138 := hS76.tr g133 (by decide +kernel) (by decide +kernel)
    have c139 : I130 a1 4 = v45 := (g133.cell ta1 (by decide +kernel)).trans c77
    rcases dj136 with ⟨p140, p141, p142, p143, p144, p145, p146, p147, p148, p149, p150, p151, p152, gl153, -⟩ | ⟨p154, p155, p156, p157, -⟩ | ⟨p158, p159, p160, p161, p162, -⟩
    · skip
      have hL163 := hL98.tr gl153 (by decide +kernel)
      have hM164 : NmM I130 R0 L132 a1 gQ := NmM.kpL hM137 gl153 hS138.1 ta1 (by decide +kernel)
      obtain ⟨v165, c166⟩ : ∃ v, I130 a0 13 = v := ⟨_, rfl⟩
      rw [c166] at p145
      rw [c101] at p145
      obtain ⟨v167, c168⟩ : ∃ v, I130 a0 9 = v := ⟨_, rfl⟩
      have b169 := iv15_9 hS138.1 ta0 c168
      rw [c168] at p146
      rw [c168] at p147
      obtain ⟨v170, c171⟩ : ∃ v, I130 a0 10 = v := ⟨_, rfl⟩
      have b172 := iv15_10 hS138.1 ta0 c171
      rw [c171] at p148
      obtain ⟨v173, c174⟩ : ∃ v, I130 a0 11 = v := ⟨_, rfl⟩
      rw [c174] at p149
      obtain ⟨y175, c176⟩ : ∃ v, L132 a0 15 = v := ⟨_, rfl⟩
      rw [c176] at p150
      obtain ⟨v177, c178⟩ : ∃ v, I130 a0 12 = v := ⟨_, rfl⟩
      rw [c178] at p151
      obtain ⟨v179, c180⟩ : ∃ v, I130 a0 8 = v := ⟨_, rfl⟩
      have b181 := iv15_8 hS138.1 ta0 c180
      rw [c180] at p152
      replace hF := hF.neg (by omega)
      replace hP := hP.neg (by omega)
      replace hF := hF.neg (by omega)
      replace hP := hP.neg (by omega)
      refine tr_lstore_n dX12_readTurner_16 (by decide) (by decide) (by decide) ?_
      refine tr_aload_n dX12_readTurner_17 rfl ?_
      refine tr_ldcwS dX12_readTurner_18 ld12_318 ?_
      refine q_callVi hE (M' := mX12_eatsWord) (as := [_]) dX12_readTurner_21 lk12_290 inX12_eatsWord seX12_eatsWord myX12_eatsWord (by decide) ⟨by decide, by decide⟩ rfl (kR15 hS138.1 ta0) (Nat.le_of_ble_eq_true rfl) rfl rfl (by decide) (by decide) (fk_X12_eatsWord hS138.1 (gB) ((tkN gB (tkN gB gs))) ta0 (by decide) (TxA.kp hT hS138 ta0 rfl rfl rfl (by decide +kernel) (by decide +kernel)) (by (try rw [c168]); first | done | omega) (by (try rw [c168]); first | done | omega) (by (try rw [c171]); first | done | omega) (by (try rw [c174]); first | done | omega) (by (try rw [c176]); first | done | assumption) (by (try rw [c178]); first | done | assumption) (by (try rw [c180]); first | done | assumption) (by (try rw [((hS138.cell ta0 (by decide +kernel)).trans c26)]); first | done | omega)) ?_
      rintro v187 cn' K' N' I182 R183 L184 ⟨rfl, rfl, rfl, rfl, g185, gl186, h188, dj189, -⟩
      (try rw [pk_21] at dj189)
      have hM190 : NmM I182 R0 L132 a1 gQ := NmM.kpS hM164 g185 hS138.1 ta1 (by decide +kernel) (by decide +kernel)
      have hS191 := hS138.tr g185 (by decide +kernel) (by decide +kernel)
      have c192 : I182 a1 4 = v45 := (g185.cell ta1 (by decide +kernel)).trans c139
      have c193 : I182 a0 13 = v165 := (g185.cell ta0 (by decide +kernel)).trans c166
      have hL194 := hL163.tr gl186 (by decide +kernel)
      have hM195 : NmM I182 R0 L184 a1 gQ := NmM.kpL hM190 gl186 hS191.1 ta1 (by decide +kernel)
      rcases dj189 with ⟨p196, p197, p198, p199, p200, p201, p202, p203, p204, p205, p206, -⟩ | ⟨p207, p208, p209, p210, p211, p212, p213, p214, p215, p216, -⟩
      · skip
        rw [c193] at p199
        rw [c166] at p199
        obtain ⟨v217, c218⟩ : ∃ v, I182 a0 9 = v := ⟨_, rfl⟩
        have b219 := iv15_9 hS191.1 ta0 c218
        rw [c218] at p200
        rw [c218] at p201
        obtain ⟨v220, c221⟩ : ∃ v, I182 a0 10 = v := ⟨_, rfl⟩
        have b222 := iv15_10 hS191.1 ta0 c221
        rw [c221] at p202
        obtain ⟨v223, c224⟩ : ∃ v, I182 a0 11 = v := ⟨_, rfl⟩
        rw [c224] at p203
        obtain ⟨y225, c226⟩ : ∃ v, L184 a0 15 = v := ⟨_, rfl⟩
        rw [c226] at p204
        obtain ⟨v227, c228⟩ : ∃ v, I182 a0 12 = v := ⟨_, rfl⟩
        rw [c228] at p205
        obtain ⟨v229, c230⟩ : ∃ v, I182 a0 8 = v := ⟨_, rfl⟩
        have b231 := iv15_8 hS191.1 ta0 c230
        rw [c230] at p206
        refine q_if_eq 31 dX12_readTurner_24 (by decide) (fun h232 => ?_) (fun h232 => ?_)
        · skip
          exfalso; omega
        · skip
          refine q_iconst dX12_readTurner_27 (by decide) ?_
          intro v233 h234
          refine tr_goto 73 dX12_readTurner_28 (by decide) ?_
          refine tr_istore_n dX12_readTurner_73 (by decide) (by decide) ?_
          have kd235 : tkd gB (tkN gB (tkN gB gs)) = 0 := by simp [tkd, (show tkK gB (tkN gB (tkN gB gs)) = 1 by omega), (show tkW gB (tkN gB (tkN gB gs)) = 627891 by omega)]
          have kd235x : tkd gB (tkN gB (tkN gB gs)) = v233.toInt := by omega
          refine tr_iload_n dX12_readTurner_74 rfl ?_
          refine q_iconst dX12_readTurner_75 (by decide) ?_
          intro v236 h237
          refine q_icmp_ne 84 dX12_readTurner_76 (by decide) (fun h238 => ?_) (fun h238 => ?_)
          · skip
            refine sf_tuL hE hZ hS191.1 (gB) (gs) (gQ) ta0 (by omega) (TxA.kp hT hS191 ta0 rfl rfl rfl (by decide +kernel) (by decide +kernel)) (fun b hb => (Option.some.inj (d2.symm.trans hb)) ▸ hM195) (by (try rw [c218]); first | done | omega) (by (try rw [c218]); first | done | omega) (by (try rw [c221]); first | done | omega) (by (try rw [c224]); first | done | omega) (by (try rw [c226]); first | done | assumption) (by (try rw [c228]); first | done | assumption) (by (try rw [c230]); first | done | assumption) (by (try rw [((hS191.cell ta0 (by decide +kernel)).trans c26)]); first | done | omega) (fun q0 z0 => by obtain rfl := Option.some.inj ((d2).symm.trans z0); (try rw [((hS191.cell ta1 (by decide +kernel)).trans c30)]); first | done | omega) (fun q0 z0 => by obtain rfl := Option.some.inj ((d2).symm.trans z0); (try rw [((hS191.cell ta1 (by decide +kernel)).trans c34)]); first | done | omega) (fun q0 z0 => by obtain rfl := Option.some.inj ((d2).symm.trans z0); (try rw [((hS191.cell ta1 (by decide +kernel)).trans c38)]); first | done | omega) (fun q0 z0 => by obtain rfl := Option.some.inj ((d2).symm.trans z0); (try rw [((hS191.cell ta1 (by decide +kernel)).trans c42)]); first | done | omega) (fun q0 z0 => by obtain rfl := Option.some.inj ((d2).symm.trans z0); (try rw [c192]); first | done | omega) (fun q0 z0 => by obtain rfl := Option.some.inj ((d2).symm.trans z0); (try rw [((hS191.cell ta1 (by decide +kernel)).trans c50)]); first | done | omega) (fun q0 z0 => by obtain rfl := Option.some.inj ((d2).symm.trans z0); (try rw [((hS191.cell ta1 (by decide +kernel)).trans c54)]); first | done | omega) (fun q0 z0 => by obtain rfl := Option.some.inj ((d2).symm.trans z0); (try rw [((hS191.cell ta1 (by decide +kernel)).trans c58)]); first | done | omega) (by first | done | assumption) (by first | done | omega) (by first | done | omega) (by first | done | omega) (by first | done | omega) (by first | done | omega) (by first | done | omega) (by first | done | omega) (by first | done | omega) (by first | done | omega) ⟨_, d2⟩ rfl rfl rfl ?_
            rintro I239 R240 L241 ⟨g242, dj243, -⟩
            obtain rfl : R0 = R240 := funext fun a => funext fun j => (g242.2.2 a j (wm_no rfl)).symm
            have hS244 := hS191.tr g242 (by decide +kernel) (by decide +kernel)
            rcases dj243 with ⟨p245, p246, p247, p248, p249, p250, p251, p252, p253, p254, p255, p256, p257, p258, p259, p260, p261, gl262, rp263, -⟩ | ⟨p264, p265, p266, p267, -⟩
            · skip
              have hL268 := hL194.tr gl262 (by decide +kernel)
              have p269 := p246 _ d2
              clear p246
              rw [((hS244.cell ta1 (by decide +kernel)).trans c30)] at p269
              have p270 := p247 _ d2
              clear p247
              rw [((hS244.cell ta1 (by decide +kernel)).trans c34)] at p270
              have p271 := p248 _ d2
              clear p248
              rw [((hS244.cell ta1 (by decide +kernel)).trans c38)] at p271
              have p272 := p249 _ d2
              clear p249
              rw [((hS244.cell ta1 (by decide +kernel)).trans c42)] at p272
              obtain ⟨v273, c274⟩ : ∃ v, I239 a1 4 = v := ⟨_, rfl⟩
              have b275 := iv14_4 hS244.1 ta1 c274
              have p276 := p250 _ d2
              clear p250
              rw [c274] at p276
              have p277 := p251 _ d2
              clear p251
              rw [((hS244.cell ta1 (by decide +kernel)).trans c50)] at p277
              have p278 := p252 _ d2
              clear p252
              rw [((hS244.cell ta1 (by decide +kernel)).trans c54)] at p278
              have p279 := p253 _ d2
              clear p253
              rw [((hS244.cell ta1 (by decide +kernel)).trans c58)] at p279
              obtain ⟨v280, c281⟩ : ∃ v, I239 a0 13 = v := ⟨_, rfl⟩
              rw [c281] at p254
              rw [c193] at p254
              obtain ⟨v282, c283⟩ : ∃ v, I239 a0 9 = v := ⟨_, rfl⟩
              have b284 := iv15_9 hS244.1 ta0 c283
              rw [c283] at p255
              rw [c283] at p256
              obtain ⟨v285, c286⟩ : ∃ v, I239 a0 10 = v := ⟨_, rfl⟩
              have b287 := iv15_10 hS244.1 ta0 c286
              rw [c286] at p257
              obtain ⟨v288, c289⟩ : ∃ v, I239 a0 11 = v := ⟨_, rfl⟩
              rw [c289] at p258
              obtain ⟨y290, c291⟩ : ∃ v, L241 a0 15 = v := ⟨_, rfl⟩
              rw [c291] at p259
              obtain ⟨v292, c293⟩ : ∃ v, I239 a0 12 = v := ⟨_, rfl⟩
              rw [c293] at p260
              obtain ⟨v294, c295⟩ : ∃ v, I239 a0 8 = v := ⟨_, rfl⟩
              have b296 := iv15_8 hS244.1 ta0 c295
              rw [c295] at p261
              obtain ⟨v297, c298⟩ : ∃ v, I239 a0 14 = v := ⟨_, rfl⟩
              exact ⟨rfl, rfl, rfl, rfl, rfl, hS244, (Or.inl ⟨(by first | done | omega), (fun q0 z0 => by obtain rfl := Option.some.inj ((d2).symm.trans z0); (try rw [((hS244.cell ta1 (by decide +kernel)).trans c30)]); first | done | omega), (fun q0 z0 => by obtain rfl := Option.some.inj ((d2).symm.trans z0); (try rw [((hS244.cell ta1 (by decide +kernel)).trans c34)]); first | done | omega), (fun q0 z0 => by obtain rfl := Option.some.inj ((d2).symm.trans z0); (try rw [((hS244.cell ta1 (by decide +kernel)).trans c38)]); first | done | omega), (fun q0 z0 => by obtain rfl := Option.some.inj ((d2).symm.trans z0); (try rw [((hS244.cell ta1 (by decide +kernel)).trans c42)]); first | done | omega), (fun q0 z0 => by obtain rfl := Option.some.inj ((d2).symm.trans z0); (try rw [c274]); first | done | omega), (fun q0 z0 => by obtain rfl := Option.some.inj ((d2).symm.trans z0); (try rw [((hS244.cell ta1 (by decide +kernel)).trans c50)]); first | done | omega), (fun q0 z0 => by obtain rfl := Option.some.inj ((d2).symm.trans z0); (try rw [((hS244.cell ta1 (by decide +kernel)).trans c54)]); first | done | omega), (fun q0 z0 => by obtain rfl := Option.some.inj ((d2).symm.trans z0); (try rw [((hS244.cell ta1 (by decide +kernel)).trans c58)]); first | done | omega), (by (try rw [c281]); (try rw [c65]); first | done | omega), (by (try rw [c283]); first | done | omega), (by (try rw [c283]); first | done | omega), (by (try rw [c286]); first | done | omega), (by (try rw [c289]); first | done | omega), (by (try rw [c291]); first | done | assumption), (by (try rw [c293]); first | done | assumption), (by (try rw [c295]); first | done | assumption), hL268, rp263, trivial⟩), trivial⟩
            · skip
              obtain ⟨v299, c300⟩ : ∃ v, I239 a0 9 = v := ⟨_, rfl⟩
              have b301 := iv15_9 hS244.1 ta0 c300
              rw [c300] at p265
              obtain ⟨v302, c303⟩ : ∃ v, I239 a0 13 = v := ⟨_, rfl⟩
              rw [c303] at p266
              obtain ⟨v304, c305⟩ : ∃ v, I239 a0 14 = v := ⟨_, rfl⟩
              rw [c305] at p267
              obtain ⟨v306, c307⟩ : ∃ v, I239 a1 4 = v := ⟨_, rfl⟩
              have b308 := iv14_4 hS244.1 ta1 c307
              obtain ⟨v309, c310⟩ : ∃ v, I239 a0 10 = v := ⟨_, rfl⟩
              have b311 := iv15_10 hS244.1 ta0 c310
              obtain ⟨v312, c313⟩ : ∃ v, I239 a0 11 = v := ⟨_, rfl⟩
              obtain ⟨y314, c315⟩ : ∃ v, L241 a0 15 = v := ⟨_, rfl⟩
              obtain ⟨v316, c317⟩ : ∃ v, I239 a0 12 = v := ⟨_, rfl⟩
              obtain ⟨v318, c319⟩ : ∃ v, I239 a0 8 = v := ⟨_, rfl⟩
              have b320 := iv15_8 hS244.1 ta0 c319
              exact ⟨rfl, rfl, rfl, rfl, rfl, hS244, (Or.inr (⟨(by first | done | omega), (by (try rw [c300]); first | done | omega), (by (try rw [c303]); first | done | omega), (by (try rw [c305]); first | done | omega), trivial⟩)), trivial⟩
          · skip
            exfalso; omega
      · skip
        rw [c193] at p209
        rw [c166] at p209
        obtain ⟨v321, c322⟩ : ∃ v, I182 a0 9 = v := ⟨_, rfl⟩
        have b323 := iv15_9 hS191.1 ta0 c322
        rw [c322] at p210
        rw [c322] at p211
        obtain ⟨v324, c325⟩ : ∃ v, I182 a0 10 = v := ⟨_, rfl⟩
        have b326 := iv15_10 hS191.1 ta0 c325
        rw [c325] at p212
        obtain ⟨v327, c328⟩ : ∃ v, I182 a0 11 = v := ⟨_, rfl⟩
        rw [c328] at p213
        obtain ⟨y329, c330⟩ : ∃ v, L184 a0 15 = v := ⟨_, rfl⟩
        rw [c330] at p214
        obtain ⟨v331, c332⟩ : ∃ v, I182 a0 12 = v := ⟨_, rfl⟩
        rw [c332] at p215
        obtain ⟨v333, c334⟩ : ∃ v, I182 a0 8 = v := ⟨_, rfl⟩
        have b335 := iv15_8 hS191.1 ta0 c334
        rw [c334] at p216
        refine q_if_eq 31 dX12_readTurner_24 (by decide) (fun h336 => ?_) (fun h336 => ?_)
        · skip
          refine tr_aload_n dX12_readTurner_31 rfl ?_
          refine tr_ldcwS dX12_readTurner_32 ld12_320 ?_
          refine q_callVi hE (M' := mX12_eatsWord) (as := [_]) dX12_readTurner_35 lk12_290 inX12_eatsWord seX12_eatsWord myX12_eatsWord (by decide) ⟨by decide, by decide⟩ rfl (kR15 hS191.1 ta0) (Nat.le_of_ble_eq_true rfl) rfl rfl (by decide) (by decide) (fk_X12_eatsWord hS191.1 (gB) ((tkN gB (tkN gB gs))) ta0 (by decide) (TxA.kp hT hS191 ta0 rfl rfl rfl (by decide +kernel) (by decide +kernel)) (by (try rw [c322]); first | done | omega) (by (try rw [c322]); first | done | omega) (by (try rw [c325]); first | done | omega) (by (try rw [c328]); first | done | omega) (by (try rw [c330]); first | done | assumption) (by (try rw [c332]); first | done | assumption) (by (try rw [c334]); first | done | assumption) (by (try rw [((hS191.cell ta0 (by decide +kernel)).trans c26)]); first | done | omega)) ?_
          rintro v342 cn' K' N' I337 R338 L339 ⟨rfl, rfl, rfl, rfl, g340, gl341, h343, dj344, -⟩
          (try rw [pk_3] at dj344)
          have hM345 : NmM I337 R0 L184 a1 gQ := NmM.kpS hM195 g340 hS191.1 ta1 (by decide +kernel) (by decide +kernel)
          have hS346 := hS191.tr g340 (by decide +kernel) (by decide +kernel)
          have c347 : I337 a1 4 = v45 := (g340.cell ta1 (by decide +kernel)).trans c192
          have c348 : I337 a0 13 = v165 := (g340.cell ta0 (by decide +kernel)).trans c193
          have hL349 := hL194.tr gl341 (by decide +kernel)
          have hM350 : NmM I337 R0 L339 a1 gQ := NmM.kpL hM345 gl341 hS346.1 ta1 (by decide +kernel)
          rcases dj344 with ⟨p351, p352, p353, p354, p355, p356, p357, p358, p359, p360, p361, -⟩ | ⟨p362, p363, p364, p365, p366, p367, p368, p369, p370, p371, -⟩
          · skip
            rw [c348] at p354
            rw [c193] at p354
            obtain ⟨v372, c373⟩ : ∃ v, I337 a0 9 = v := ⟨_, rfl⟩
            have b374 := iv15_9 hS346.1 ta0 c373
            rw [c373] at p355
            rw [c373] at p356
            obtain ⟨v375, c376⟩ : ∃ v, I337 a0 10 = v := ⟨_, rfl⟩
            have b377 := iv15_10 hS346.1 ta0 c376
            rw [c376] at p357
            obtain ⟨v378, c379⟩ : ∃ v, I337 a0 11 = v := ⟨_, rfl⟩
            rw [c379] at p358
            obtain ⟨y380, c381⟩ : ∃ v, L339 a0 15 = v := ⟨_, rfl⟩
            rw [c381] at p359
            obtain ⟨v382, c383⟩ : ∃ v, I337 a0 12 = v := ⟨_, rfl⟩
            rw [c383] at p360
            obtain ⟨v384, c385⟩ : ∃ v, I337 a0 8 = v := ⟨_, rfl⟩
            have b386 := iv15_8 hS346.1 ta0 c385
            rw [c385] at p361
            refine q_if_eq 45 dX12_readTurner_38 (by decide) (fun h387 => ?_) (fun h387 => ?_)
            · skip
              exfalso; omega
            · skip
              refine q_iconst dX12_readTurner_41 (by decide) ?_
              intro v388 h389
              refine tr_goto 73 dX12_readTurner_42 (by decide) ?_
              refine tr_istore_n dX12_readTurner_73 (by decide) (by decide) ?_
              have kd390 : tkd gB (tkN gB (tkN gB gs)) = 1 := by simp [tkd, (show tkK gB (tkN gB (tkN gB gs)) = 1 by omega), (show tkW gB (tkN gB (tkN gB gs)) = 2500036 by omega)]
              have kd390x : tkd gB (tkN gB (tkN gB gs)) = v388.toInt := by omega
              refine tr_iload_n dX12_readTurner_74 rfl ?_
              refine q_iconst dX12_readTurner_75 (by decide) ?_
              intro v391 h392
              refine q_icmp_ne 84 dX12_readTurner_76 (by decide) (fun h393 => ?_) (fun h393 => ?_)
              · skip
                refine sf_tuL hE hZ hS346.1 (gB) (gs) (gQ) ta0 (by omega) (TxA.kp hT hS346 ta0 rfl rfl rfl (by decide +kernel) (by decide +kernel)) (fun b hb => (Option.some.inj (d2.symm.trans hb)) ▸ hM350) (by (try rw [c373]); first | done | omega) (by (try rw [c373]); first | done | omega) (by (try rw [c376]); first | done | omega) (by (try rw [c379]); first | done | omega) (by (try rw [c381]); first | done | assumption) (by (try rw [c383]); first | done | assumption) (by (try rw [c385]); first | done | assumption) (by (try rw [((hS346.cell ta0 (by decide +kernel)).trans c26)]); first | done | omega) (fun q0 z0 => by obtain rfl := Option.some.inj ((d2).symm.trans z0); (try rw [((hS346.cell ta1 (by decide +kernel)).trans c30)]); first | done | omega) (fun q0 z0 => by obtain rfl := Option.some.inj ((d2).symm.trans z0); (try rw [((hS346.cell ta1 (by decide +kernel)).trans c34)]); first | done | omega) (fun q0 z0 => by obtain rfl := Option.some.inj ((d2).symm.trans z0); (try rw [((hS346.cell ta1 (by decide +kernel)).trans c38)]); first | done | omega) (fun q0 z0 => by obtain rfl := Option.some.inj ((d2).symm.trans z0); (try rw [((hS346.cell ta1 (by decide +kernel)).trans c42)]); first | done | omega) (fun q0 z0 => by obtain rfl := Option.some.inj ((d2).symm.trans z0); (try rw [c347]); first | done | omega) (fun q0 z0 => by obtain rfl := Option.some.inj ((d2).symm.trans z0); (try rw [((hS346.cell ta1 (by decide +kernel)).trans c50)]); first | done | omega) (fun q0 z0 => by obtain rfl := Option.some.inj ((d2).symm.trans z0); (try rw [((hS346.cell ta1 (by decide +kernel)).trans c54)]); first | done | omega) (fun q0 z0 => by obtain rfl := Option.some.inj ((d2).symm.trans z0); (try rw [((hS346.cell ta1 (by decide +kernel)).trans c58)]); first | done | omega) (by first | done | assumption) (by first | done | omega) (by first | done | omega) (by first | done | omega) (by first | done | omega) (by first | done | omega) (by first | done | omega) (by first | done | omega) (by first | done | omega) (by first | done | omega) ⟨_, d2⟩ rfl rfl rfl ?_
                rintro I394 R395 L396 ⟨g397, dj398, -⟩
                obtain rfl : R0 = R395 := funext fun a => funext fun j => (g397.2.2 a j (wm_no rfl)).symm
                have hS399 := hS346.tr g397 (by decide +kernel) (by decide +kernel)
                rcases dj398 with ⟨p400, p401, p402, p403, p404, p405, p406, p407, p408, p409, p410, p411, p412, p413, p414, p415, p416, gl417, rp418, -⟩ | ⟨p419, p420, p421, p422, -⟩
                · skip
                  have hL423 := hL349.tr gl417 (by decide +kernel)
                  have p424 := p401 _ d2
                  clear p401
                  rw [((hS399.cell ta1 (by decide +kernel)).trans c30)] at p424
                  have p425 := p402 _ d2
                  clear p402
                  rw [((hS399.cell ta1 (by decide +kernel)).trans c34)] at p425
                  have p426 := p403 _ d2
                  clear p403
                  rw [((hS399.cell ta1 (by decide +kernel)).trans c38)] at p426
                  have p427 := p404 _ d2
                  clear p404
                  rw [((hS399.cell ta1 (by decide +kernel)).trans c42)] at p427
                  obtain ⟨v428, c429⟩ : ∃ v, I394 a1 4 = v := ⟨_, rfl⟩
                  have b430 := iv14_4 hS399.1 ta1 c429
                  have p431 := p405 _ d2
                  clear p405
                  rw [c429] at p431
                  have p432 := p406 _ d2
                  clear p406
                  rw [((hS399.cell ta1 (by decide +kernel)).trans c50)] at p432
                  have p433 := p407 _ d2
                  clear p407
                  rw [((hS399.cell ta1 (by decide +kernel)).trans c54)] at p433
                  have p434 := p408 _ d2
                  clear p408
                  rw [((hS399.cell ta1 (by decide +kernel)).trans c58)] at p434
                  obtain ⟨v435, c436⟩ : ∃ v, I394 a0 13 = v := ⟨_, rfl⟩
                  rw [c436] at p409
                  rw [c348] at p409
                  obtain ⟨v437, c438⟩ : ∃ v, I394 a0 9 = v := ⟨_, rfl⟩
                  have b439 := iv15_9 hS399.1 ta0 c438
                  rw [c438] at p410
                  rw [c438] at p411
                  obtain ⟨v440, c441⟩ : ∃ v, I394 a0 10 = v := ⟨_, rfl⟩
                  have b442 := iv15_10 hS399.1 ta0 c441
                  rw [c441] at p412
                  obtain ⟨v443, c444⟩ : ∃ v, I394 a0 11 = v := ⟨_, rfl⟩
                  rw [c444] at p413
                  obtain ⟨y445, c446⟩ : ∃ v, L396 a0 15 = v := ⟨_, rfl⟩
                  rw [c446] at p414
                  obtain ⟨v447, c448⟩ : ∃ v, I394 a0 12 = v := ⟨_, rfl⟩
                  rw [c448] at p415
                  obtain ⟨v449, c450⟩ : ∃ v, I394 a0 8 = v := ⟨_, rfl⟩
                  have b451 := iv15_8 hS399.1 ta0 c450
                  rw [c450] at p416
                  obtain ⟨v452, c453⟩ : ∃ v, I394 a0 14 = v := ⟨_, rfl⟩
                  exact ⟨rfl, rfl, rfl, rfl, rfl, hS399, (Or.inl ⟨(by first | done | omega), (fun q0 z0 => by obtain rfl := Option.some.inj ((d2).symm.trans z0); (try rw [((hS399.cell ta1 (by decide +kernel)).trans c30)]); first | done | omega), (fun q0 z0 => by obtain rfl := Option.some.inj ((d2).symm.trans z0); (try rw [((hS399.cell ta1 (by decide +kernel)).trans c34)]); first | done | omega), (fun q0 z0 => by obtain rfl := Option.some.inj ((d2).symm.trans z0); (try rw [((hS399.cell ta1 (by decide +kernel)).trans c38)]); first | done | omega), (fun q0 z0 => by obtain rfl := Option.some.inj ((d2).symm.trans z0); (try rw [((hS399.cell ta1 (by decide +kernel)).trans c42)]); first | done | omega), (fun q0 z0 => by obtain rfl := Option.some.inj ((d2).symm.trans z0); (try rw [c429]); first | done | omega), (fun q0 z0 => by obtain rfl := Option.some.inj ((d2).symm.trans z0); (try rw [((hS399.cell ta1 (by decide +kernel)).trans c50)]); first | done | omega), (fun q0 z0 => by obtain rfl := Option.some.inj ((d2).symm.trans z0); (try rw [((hS399.cell ta1 (by decide +kernel)).trans c54)]); first | done | omega), (fun q0 z0 => by obtain rfl := Option.some.inj ((d2).symm.trans z0); (try rw [((hS399.cell ta1 (by decide +kernel)).trans c58)]); first | done | omega), (by (try rw [c436]); (try rw [c65]); first | done | omega), (by (try rw [c438]); first | done | omega), (by (try rw [c438]); first | done | omega), (by (try rw [c441]); first | done | omega), (by (try rw [c444]); first | done | omega), (by (try rw [c446]); first | done | assumption), (by (try rw [c448]); first | done | assumption), (by (try rw [c450]); first | done | assumption), hL423, rp418, trivial⟩), trivial⟩
                · skip
                  obtain ⟨v454, c455⟩ : ∃ v, I394 a0 9 = v := ⟨_, rfl⟩
                  have b456 := iv15_9 hS399.1 ta0 c455
                  rw [c455] at p420
                  obtain ⟨v457, c458⟩ : ∃ v, I394 a0 13 = v := ⟨_, rfl⟩
                  rw [c458] at p421
                  obtain ⟨v459, c460⟩ : ∃ v, I394 a0 14 = v := ⟨_, rfl⟩
                  rw [c460] at p422
                  obtain ⟨v461, c462⟩ : ∃ v, I394 a1 4 = v := ⟨_, rfl⟩
                  have b463 := iv14_4 hS399.1 ta1 c462
                  obtain ⟨v464, c465⟩ : ∃ v, I394 a0 10 = v := ⟨_, rfl⟩
                  have b466 := iv15_10 hS399.1 ta0 c465
                  obtain ⟨v467, c468⟩ : ∃ v, I394 a0 11 = v := ⟨_, rfl⟩
                  obtain ⟨y469, c470⟩ : ∃ v, L396 a0 15 = v := ⟨_, rfl⟩
                  obtain ⟨v471, c472⟩ : ∃ v, I394 a0 12 = v := ⟨_, rfl⟩
                  obtain ⟨v473, c474⟩ : ∃ v, I394 a0 8 = v := ⟨_, rfl⟩
                  have b475 := iv15_8 hS399.1 ta0 c474
                  exact ⟨rfl, rfl, rfl, rfl, rfl, hS399, (Or.inr (⟨(by first | done | omega), (by (try rw [c455]); first | done | omega), (by (try rw [c458]); first | done | omega), (by (try rw [c460]); first | done | omega), trivial⟩)), trivial⟩
              · skip
                exfalso; omega
          · skip
            rw [c348] at p364
            rw [c193] at p364
            obtain ⟨v476, c477⟩ : ∃ v, I337 a0 9 = v := ⟨_, rfl⟩
            have b478 := iv15_9 hS346.1 ta0 c477
            rw [c477] at p365
            rw [c477] at p366
            obtain ⟨v479, c480⟩ : ∃ v, I337 a0 10 = v := ⟨_, rfl⟩
            have b481 := iv15_10 hS346.1 ta0 c480
            rw [c480] at p367
            obtain ⟨v482, c483⟩ : ∃ v, I337 a0 11 = v := ⟨_, rfl⟩
            rw [c483] at p368
            obtain ⟨y484, c485⟩ : ∃ v, L339 a0 15 = v := ⟨_, rfl⟩
            rw [c485] at p369
            obtain ⟨v486, c487⟩ : ∃ v, I337 a0 12 = v := ⟨_, rfl⟩
            rw [c487] at p370
            obtain ⟨v488, c489⟩ : ∃ v, I337 a0 8 = v := ⟨_, rfl⟩
            have b490 := iv15_8 hS346.1 ta0 c489
            rw [c489] at p371
            refine q_if_eq 45 dX12_readTurner_38 (by decide) (fun h491 => ?_) (fun h491 => ?_)
            · skip
              refine tr_aload_n dX12_readTurner_45 rfl ?_
              refine tr_ldcwS dX12_readTurner_46 ld12_322 ?_
              refine q_callVi hE (M' := mX12_eatsWord) (as := [_]) dX12_readTurner_49 lk12_290 inX12_eatsWord seX12_eatsWord myX12_eatsWord (by decide) ⟨by decide, by decide⟩ rfl (kR15 hS346.1 ta0) (Nat.le_of_ble_eq_true rfl) rfl rfl (by decide) (by decide) (fk_X12_eatsWord hS346.1 (gB) ((tkN gB (tkN gB gs))) ta0 (by decide) (TxA.kp hT hS346 ta0 rfl rfl rfl (by decide +kernel) (by decide +kernel)) (by (try rw [c477]); first | done | omega) (by (try rw [c477]); first | done | omega) (by (try rw [c480]); first | done | omega) (by (try rw [c483]); first | done | omega) (by (try rw [c485]); first | done | assumption) (by (try rw [c487]); first | done | assumption) (by (try rw [c489]); first | done | assumption) (by (try rw [((hS346.cell ta0 (by decide +kernel)).trans c26)]); first | done | omega)) ?_
              rintro v497 cn' K' N' I492 R493 L494 ⟨rfl, rfl, rfl, rfl, g495, gl496, h498, dj499, -⟩
              (try rw [pk_9] at dj499)
              have hM500 : NmM I492 R0 L339 a1 gQ := NmM.kpS hM350 g495 hS346.1 ta1 (by decide +kernel) (by decide +kernel)
              have hS501 := hS346.tr g495 (by decide +kernel) (by decide +kernel)
              have c502 : I492 a1 4 = v45 := (g495.cell ta1 (by decide +kernel)).trans c347
              have c503 : I492 a0 13 = v165 := (g495.cell ta0 (by decide +kernel)).trans c348
              have hL504 := hL349.tr gl496 (by decide +kernel)
              have hM505 : NmM I492 R0 L494 a1 gQ := NmM.kpL hM500 gl496 hS501.1 ta1 (by decide +kernel)
              rcases dj499 with ⟨p506, p507, p508, p509, p510, p511, p512, p513, p514, p515, p516, -⟩ | ⟨p517, p518, p519, p520, p521, p522, p523, p524, p525, p526, -⟩
              · skip
                rw [c503] at p509
                rw [c348] at p509
                obtain ⟨v527, c528⟩ : ∃ v, I492 a0 9 = v := ⟨_, rfl⟩
                have b529 := iv15_9 hS501.1 ta0 c528
                rw [c528] at p510
                rw [c528] at p511
                obtain ⟨v530, c531⟩ : ∃ v, I492 a0 10 = v := ⟨_, rfl⟩
                have b532 := iv15_10 hS501.1 ta0 c531
                rw [c531] at p512
                obtain ⟨v533, c534⟩ : ∃ v, I492 a0 11 = v := ⟨_, rfl⟩
                rw [c534] at p513
                obtain ⟨y535, c536⟩ : ∃ v, L494 a0 15 = v := ⟨_, rfl⟩
                rw [c536] at p514
                obtain ⟨v537, c538⟩ : ∃ v, I492 a0 12 = v := ⟨_, rfl⟩
                rw [c538] at p515
                obtain ⟨v539, c540⟩ : ∃ v, I492 a0 8 = v := ⟨_, rfl⟩
                have b541 := iv15_8 hS501.1 ta0 c540
                rw [c540] at p516
                refine q_if_eq 59 dX12_readTurner_52 (by decide) (fun h542 => ?_) (fun h542 => ?_)
                · skip
                  exfalso; omega
                · skip
                  refine q_iconst dX12_readTurner_55 (by decide) ?_
                  intro v543 h544
                  refine tr_goto 73 dX12_readTurner_56 (by decide) ?_
                  refine tr_istore_n dX12_readTurner_73 (by decide) (by decide) ?_
                  have kd545 : tkd gB (tkN gB (tkN gB gs)) = 2 := by simp [tkd, (show tkK gB (tkN gB (tkN gB gs)) = 1 by omega), (show tkW gB (tkN gB (tkN gB gs)) = 136230 by omega)]
                  have kd545x : tkd gB (tkN gB (tkN gB gs)) = v543.toInt := by omega
                  refine tr_iload_n dX12_readTurner_74 rfl ?_
                  refine q_iconst dX12_readTurner_75 (by decide) ?_
                  intro v546 h547
                  refine q_icmp_ne 84 dX12_readTurner_76 (by decide) (fun h548 => ?_) (fun h548 => ?_)
                  · skip
                    refine sf_tuL hE hZ hS501.1 (gB) (gs) (gQ) ta0 (by omega) (TxA.kp hT hS501 ta0 rfl rfl rfl (by decide +kernel) (by decide +kernel)) (fun b hb => (Option.some.inj (d2.symm.trans hb)) ▸ hM505) (by (try rw [c528]); first | done | omega) (by (try rw [c528]); first | done | omega) (by (try rw [c531]); first | done | omega) (by (try rw [c534]); first | done | omega) (by (try rw [c536]); first | done | assumption) (by (try rw [c538]); first | done | assumption) (by (try rw [c540]); first | done | assumption) (by (try rw [((hS501.cell ta0 (by decide +kernel)).trans c26)]); first | done | omega) (fun q0 z0 => by obtain rfl := Option.some.inj ((d2).symm.trans z0); (try rw [((hS501.cell ta1 (by decide +kernel)).trans c30)]); first | done | omega) (fun q0 z0 => by obtain rfl := Option.some.inj ((d2).symm.trans z0); (try rw [((hS501.cell ta1 (by decide +kernel)).trans c34)]); first | done | omega) (fun q0 z0 => by obtain rfl := Option.some.inj ((d2).symm.trans z0); (try rw [((hS501.cell ta1 (by decide +kernel)).trans c38)]); first | done | omega) (fun q0 z0 => by obtain rfl := Option.some.inj ((d2).symm.trans z0); (try rw [((hS501.cell ta1 (by decide +kernel)).trans c42)]); first | done | omega) (fun q0 z0 => by obtain rfl := Option.some.inj ((d2).symm.trans z0); (try rw [c502]); first | done | omega) (fun q0 z0 => by obtain rfl := Option.some.inj ((d2).symm.trans z0); (try rw [((hS501.cell ta1 (by decide +kernel)).trans c50)]); first | done | omega) (fun q0 z0 => by obtain rfl := Option.some.inj ((d2).symm.trans z0); (try rw [((hS501.cell ta1 (by decide +kernel)).trans c54)]); first | done | omega) (fun q0 z0 => by obtain rfl := Option.some.inj ((d2).symm.trans z0); (try rw [((hS501.cell ta1 (by decide +kernel)).trans c58)]); first | done | omega) (by first | done | assumption) (by first | done | omega) (by first | done | omega) (by first | done | omega) (by first | done | omega) (by first | done | omega) (by first | done | omega) (by first | done | omega) (by first | done | omega) (by first | done | omega) ⟨_, d2⟩ rfl rfl rfl ?_
                    rintro I549 R550 L551 ⟨g552, dj553, -⟩
                    obtain rfl : R0 = R550 := funext fun a => funext fun j => (g552.2.2 a j (wm_no rfl)).symm
                    have hS554 := hS501.tr g552 (by decide +kernel) (by decide +kernel)
                    rcases dj553 with ⟨p555, p556, p557, p558, p559, p560, p561, p562, p563, p564, p565, p566, p567, p568, p569, p570, p571, gl572, rp573, -⟩ | ⟨p574, p575, p576, p577, -⟩
                    · skip
                      have hL578 := hL504.tr gl572 (by decide +kernel)
                      have p579 := p556 _ d2
                      clear p556
                      rw [((hS554.cell ta1 (by decide +kernel)).trans c30)] at p579
                      have p580 := p557 _ d2
                      clear p557
                      rw [((hS554.cell ta1 (by decide +kernel)).trans c34)] at p580
                      have p581 := p558 _ d2
                      clear p558
                      rw [((hS554.cell ta1 (by decide +kernel)).trans c38)] at p581
                      have p582 := p559 _ d2
                      clear p559
                      rw [((hS554.cell ta1 (by decide +kernel)).trans c42)] at p582
                      obtain ⟨v583, c584⟩ : ∃ v, I549 a1 4 = v := ⟨_, rfl⟩
                      have b585 := iv14_4 hS554.1 ta1 c584
                      have p586 := p560 _ d2
                      clear p560
                      rw [c584] at p586
                      have p587 := p561 _ d2
                      clear p561
                      rw [((hS554.cell ta1 (by decide +kernel)).trans c50)] at p587
                      have p588 := p562 _ d2
                      clear p562
                      rw [((hS554.cell ta1 (by decide +kernel)).trans c54)] at p588
                      have p589 := p563 _ d2
                      clear p563
                      rw [((hS554.cell ta1 (by decide +kernel)).trans c58)] at p589
                      obtain ⟨v590, c591⟩ : ∃ v, I549 a0 13 = v := ⟨_, rfl⟩
                      rw [c591] at p564
                      rw [c503] at p564
                      obtain ⟨v592, c593⟩ : ∃ v, I549 a0 9 = v := ⟨_, rfl⟩
                      have b594 := iv15_9 hS554.1 ta0 c593
                      rw [c593] at p565
                      rw [c593] at p566
                      obtain ⟨v595, c596⟩ : ∃ v, I549 a0 10 = v := ⟨_, rfl⟩
                      have b597 := iv15_10 hS554.1 ta0 c596
                      rw [c596] at p567
                      obtain ⟨v598, c599⟩ : ∃ v, I549 a0 11 = v := ⟨_, rfl⟩
                      rw [c599] at p568
                      obtain ⟨y600, c601⟩ : ∃ v, L551 a0 15 = v := ⟨_, rfl⟩
                      rw [c601] at p569
                      obtain ⟨v602, c603⟩ : ∃ v, I549 a0 12 = v := ⟨_, rfl⟩
                      rw [c603] at p570
                      obtain ⟨v604, c605⟩ : ∃ v, I549 a0 8 = v := ⟨_, rfl⟩
                      have b606 := iv15_8 hS554.1 ta0 c605
                      rw [c605] at p571
                      obtain ⟨v607, c608⟩ : ∃ v, I549 a0 14 = v := ⟨_, rfl⟩
                      exact ⟨rfl, rfl, rfl, rfl, rfl, hS554, (Or.inl ⟨(by first | done | omega), (fun q0 z0 => by obtain rfl := Option.some.inj ((d2).symm.trans z0); (try rw [((hS554.cell ta1 (by decide +kernel)).trans c30)]); first | done | omega), (fun q0 z0 => by obtain rfl := Option.some.inj ((d2).symm.trans z0); (try rw [((hS554.cell ta1 (by decide +kernel)).trans c34)]); first | done | omega), (fun q0 z0 => by obtain rfl := Option.some.inj ((d2).symm.trans z0); (try rw [((hS554.cell ta1 (by decide +kernel)).trans c38)]); first | done | omega), (fun q0 z0 => by obtain rfl := Option.some.inj ((d2).symm.trans z0); (try rw [((hS554.cell ta1 (by decide +kernel)).trans c42)]); first | done | omega), (fun q0 z0 => by obtain rfl := Option.some.inj ((d2).symm.trans z0); (try rw [c584]); first | done | omega), (fun q0 z0 => by obtain rfl := Option.some.inj ((d2).symm.trans z0); (try rw [((hS554.cell ta1 (by decide +kernel)).trans c50)]); first | done | omega), (fun q0 z0 => by obtain rfl := Option.some.inj ((d2).symm.trans z0); (try rw [((hS554.cell ta1 (by decide +kernel)).trans c54)]); first | done | omega), (fun q0 z0 => by obtain rfl := Option.some.inj ((d2).symm.trans z0); (try rw [((hS554.cell ta1 (by decide +kernel)).trans c58)]); first | done | omega), (by (try rw [c591]); (try rw [c65]); first | done | omega), (by (try rw [c593]); first | done | omega), (by (try rw [c593]); first | done | omega), (by (try rw [c596]); first | done | omega), (by (try rw [c599]); first | done | omega), (by (try rw [c601]); first | done | assumption), (by (try rw [c603]); first | done | assumption), (by (try rw [c605]); first | done | assumption), hL578, rp573, trivial⟩), trivial⟩
                    · skip
                      obtain ⟨v609, c610⟩ : ∃ v, I549 a0 9 = v := ⟨_, rfl⟩
                      have b611 := iv15_9 hS554.1 ta0 c610
                      rw [c610] at p575
                      obtain ⟨v612, c613⟩ : ∃ v, I549 a0 13 = v := ⟨_, rfl⟩
                      rw [c613] at p576
                      obtain ⟨v614, c615⟩ : ∃ v, I549 a0 14 = v := ⟨_, rfl⟩
                      rw [c615] at p577
                      obtain ⟨v616, c617⟩ : ∃ v, I549 a1 4 = v := ⟨_, rfl⟩
                      have b618 := iv14_4 hS554.1 ta1 c617
                      obtain ⟨v619, c620⟩ : ∃ v, I549 a0 10 = v := ⟨_, rfl⟩
                      have b621 := iv15_10 hS554.1 ta0 c620
                      obtain ⟨v622, c623⟩ : ∃ v, I549 a0 11 = v := ⟨_, rfl⟩
                      obtain ⟨y624, c625⟩ : ∃ v, L551 a0 15 = v := ⟨_, rfl⟩
                      obtain ⟨v626, c627⟩ : ∃ v, I549 a0 12 = v := ⟨_, rfl⟩
                      obtain ⟨v628, c629⟩ : ∃ v, I549 a0 8 = v := ⟨_, rfl⟩
                      have b630 := iv15_8 hS554.1 ta0 c629
                      exact ⟨rfl, rfl, rfl, rfl, rfl, hS554, (Or.inr (⟨(by first | done | omega), (by (try rw [c610]); first | done | omega), (by (try rw [c613]); first | done | omega), (by (try rw [c615]); first | done | omega), trivial⟩)), trivial⟩
                  · skip
                    exfalso; omega
              · skip
                rw [c503] at p519
                rw [c348] at p519
                obtain ⟨v631, c632⟩ : ∃ v, I492 a0 9 = v := ⟨_, rfl⟩
                have b633 := iv15_9 hS501.1 ta0 c632
                rw [c632] at p520
                rw [c632] at p521
                obtain ⟨v634, c635⟩ : ∃ v, I492 a0 10 = v := ⟨_, rfl⟩
                have b636 := iv15_10 hS501.1 ta0 c635
                rw [c635] at p522
                obtain ⟨v637, c638⟩ : ∃ v, I492 a0 11 = v := ⟨_, rfl⟩
                rw [c638] at p523
                obtain ⟨y639, c640⟩ : ∃ v, L494 a0 15 = v := ⟨_, rfl⟩
                rw [c640] at p524
                obtain ⟨v641, c642⟩ : ∃ v, I492 a0 12 = v := ⟨_, rfl⟩
                rw [c642] at p525
                obtain ⟨v643, c644⟩ : ∃ v, I492 a0 8 = v := ⟨_, rfl⟩
                have b645 := iv15_8 hS501.1 ta0 c644
                rw [c644] at p526
                refine q_if_eq 59 dX12_readTurner_52 (by decide) (fun h646 => ?_) (fun h646 => ?_)
                · skip
                  refine tr_aload_n dX12_readTurner_59 rfl ?_
                  refine tr_ldcS dX12_readTurner_60 ld12_178 ?_
                  refine q_callVi hE (M' := mX12_eatsWord) (as := [_]) dX12_readTurner_62 lk12_290 inX12_eatsWord seX12_eatsWord myX12_eatsWord (by decide) ⟨by decide, by decide⟩ rfl (kR15 hS501.1 ta0) (Nat.le_of_ble_eq_true rfl) rfl rfl (by decide) (by decide) (fk_X12_eatsWord hS501.1 (gB) ((tkN gB (tkN gB gs))) ta0 (by decide) (TxA.kp hT hS501 ta0 rfl rfl rfl (by decide +kernel) (by decide +kernel)) (by (try rw [c632]); first | done | omega) (by (try rw [c632]); first | done | omega) (by (try rw [c635]); first | done | omega) (by (try rw [c638]); first | done | omega) (by (try rw [c640]); first | done | assumption) (by (try rw [c642]); first | done | assumption) (by (try rw [c644]); first | done | assumption) (by (try rw [((hS501.cell ta0 (by decide +kernel)).trans c26)]); first | done | omega)) ?_
                  rintro v652 cn' K' N' I647 R648 L649 ⟨rfl, rfl, rfl, rfl, g650, gl651, h653, dj654, -⟩
                  (try rw [pk_0] at dj654)
                  have hM655 : NmM I647 R0 L494 a1 gQ := NmM.kpS hM505 g650 hS501.1 ta1 (by decide +kernel) (by decide +kernel)
                  have hS656 := hS501.tr g650 (by decide +kernel) (by decide +kernel)
                  have c657 : I647 a1 4 = v45 := (g650.cell ta1 (by decide +kernel)).trans c502
                  have c658 : I647 a0 13 = v165 := (g650.cell ta0 (by decide +kernel)).trans c503
                  have hL659 := hL504.tr gl651 (by decide +kernel)
                  have hM660 : NmM I647 R0 L649 a1 gQ := NmM.kpL hM655 gl651 hS656.1 ta1 (by decide +kernel)
                  rcases dj654 with ⟨p661, p662, p663, p664, p665, p666, p667, p668, p669, p670, p671, -⟩ | ⟨p672, p673, p674, p675, p676, p677, p678, p679, p680, p681, -⟩
                  · skip
                    rw [c658] at p664
                    rw [c503] at p664
                    obtain ⟨v682, c683⟩ : ∃ v, I647 a0 9 = v := ⟨_, rfl⟩
                    have b684 := iv15_9 hS656.1 ta0 c683
                    rw [c683] at p665
                    rw [c683] at p666
                    obtain ⟨v685, c686⟩ : ∃ v, I647 a0 10 = v := ⟨_, rfl⟩
                    have b687 := iv15_10 hS656.1 ta0 c686
                    rw [c686] at p667
                    obtain ⟨v688, c689⟩ : ∃ v, I647 a0 11 = v := ⟨_, rfl⟩
                    rw [c689] at p668
                    obtain ⟨y690, c691⟩ : ∃ v, L649 a0 15 = v := ⟨_, rfl⟩
                    rw [c691] at p669
                    obtain ⟨v692, c693⟩ : ∃ v, I647 a0 12 = v := ⟨_, rfl⟩
                    rw [c693] at p670
                    obtain ⟨v694, c695⟩ : ∃ v, I647 a0 8 = v := ⟨_, rfl⟩
                    have b696 := iv15_8 hS656.1 ta0 c695
                    rw [c695] at p671
                    refine q_if_eq 72 dX12_readTurner_65 (by decide) (fun h697 => ?_) (fun h697 => ?_)
                    · skip
                      exfalso; omega
                    · skip
                      refine q_iconst dX12_readTurner_68 (by decide) ?_
                      intro v698 h699
                      refine tr_goto 73 dX12_readTurner_69 (by decide) ?_
                      refine tr_istore_n dX12_readTurner_73 (by decide) (by decide) ?_
                      have kd700 : tkd gB (tkN gB (tkN gB gs)) = 3 := by simp [tkd, (show tkK gB (tkN gB (tkN gB gs)) = 1 by omega), (show tkW gB (tkN gB (tkN gB gs)) = 1490073635 by omega)]
                      have kd700x : tkd gB (tkN gB (tkN gB gs)) = v698.toInt := by omega
                      refine tr_iload_n dX12_readTurner_74 rfl ?_
                      refine q_iconst dX12_readTurner_75 (by decide) ?_
                      intro v701 h702
                      refine q_icmp_ne 84 dX12_readTurner_76 (by decide) (fun h703 => ?_) (fun h703 => ?_)
                      · skip
                        refine sf_tuL hE hZ hS656.1 (gB) (gs) (gQ) ta0 (by omega) (TxA.kp hT hS656 ta0 rfl rfl rfl (by decide +kernel) (by decide +kernel)) (fun b hb => (Option.some.inj (d2.symm.trans hb)) ▸ hM660) (by (try rw [c683]); first | done | omega) (by (try rw [c683]); first | done | omega) (by (try rw [c686]); first | done | omega) (by (try rw [c689]); first | done | omega) (by (try rw [c691]); first | done | assumption) (by (try rw [c693]); first | done | assumption) (by (try rw [c695]); first | done | assumption) (by (try rw [((hS656.cell ta0 (by decide +kernel)).trans c26)]); first | done | omega) (fun q0 z0 => by obtain rfl := Option.some.inj ((d2).symm.trans z0); (try rw [((hS656.cell ta1 (by decide +kernel)).trans c30)]); first | done | omega) (fun q0 z0 => by obtain rfl := Option.some.inj ((d2).symm.trans z0); (try rw [((hS656.cell ta1 (by decide +kernel)).trans c34)]); first | done | omega) (fun q0 z0 => by obtain rfl := Option.some.inj ((d2).symm.trans z0); (try rw [((hS656.cell ta1 (by decide +kernel)).trans c38)]); first | done | omega) (fun q0 z0 => by obtain rfl := Option.some.inj ((d2).symm.trans z0); (try rw [((hS656.cell ta1 (by decide +kernel)).trans c42)]); first | done | omega) (fun q0 z0 => by obtain rfl := Option.some.inj ((d2).symm.trans z0); (try rw [c657]); first | done | omega) (fun q0 z0 => by obtain rfl := Option.some.inj ((d2).symm.trans z0); (try rw [((hS656.cell ta1 (by decide +kernel)).trans c50)]); first | done | omega) (fun q0 z0 => by obtain rfl := Option.some.inj ((d2).symm.trans z0); (try rw [((hS656.cell ta1 (by decide +kernel)).trans c54)]); first | done | omega) (fun q0 z0 => by obtain rfl := Option.some.inj ((d2).symm.trans z0); (try rw [((hS656.cell ta1 (by decide +kernel)).trans c58)]); first | done | omega) (by first | done | assumption) (by first | done | omega) (by first | done | omega) (by first | done | omega) (by first | done | omega) (by first | done | omega) (by first | done | omega) (by first | done | omega) (by first | done | omega) (by first | done | omega) ⟨_, d2⟩ rfl rfl rfl ?_
                        rintro I704 R705 L706 ⟨g707, dj708, -⟩
                        obtain rfl : R0 = R705 := funext fun a => funext fun j => (g707.2.2 a j (wm_no rfl)).symm
                        have hS709 := hS656.tr g707 (by decide +kernel) (by decide +kernel)
                        rcases dj708 with ⟨p710, p711, p712, p713, p714, p715, p716, p717, p718, p719, p720, p721, p722, p723, p724, p725, p726, gl727, rp728, -⟩ | ⟨p729, p730, p731, p732, -⟩
                        · skip
                          have hL733 := hL659.tr gl727 (by decide +kernel)
                          have p734 := p711 _ d2
                          clear p711
                          rw [((hS709.cell ta1 (by decide +kernel)).trans c30)] at p734
                          have p735 := p712 _ d2
                          clear p712
                          rw [((hS709.cell ta1 (by decide +kernel)).trans c34)] at p735
                          have p736 := p713 _ d2
                          clear p713
                          rw [((hS709.cell ta1 (by decide +kernel)).trans c38)] at p736
                          have p737 := p714 _ d2
                          clear p714
                          rw [((hS709.cell ta1 (by decide +kernel)).trans c42)] at p737
                          obtain ⟨v738, c739⟩ : ∃ v, I704 a1 4 = v := ⟨_, rfl⟩
                          have b740 := iv14_4 hS709.1 ta1 c739
                          have p741 := p715 _ d2
                          clear p715
                          rw [c739] at p741
                          have p742 := p716 _ d2
                          clear p716
                          rw [((hS709.cell ta1 (by decide +kernel)).trans c50)] at p742
                          have p743 := p717 _ d2
                          clear p717
                          rw [((hS709.cell ta1 (by decide +kernel)).trans c54)] at p743
                          have p744 := p718 _ d2
                          clear p718
                          rw [((hS709.cell ta1 (by decide +kernel)).trans c58)] at p744
                          obtain ⟨v745, c746⟩ : ∃ v, I704 a0 13 = v := ⟨_, rfl⟩
                          rw [c746] at p719
                          rw [c658] at p719
                          obtain ⟨v747, c748⟩ : ∃ v, I704 a0 9 = v := ⟨_, rfl⟩
                          have b749 := iv15_9 hS709.1 ta0 c748
                          rw [c748] at p720
                          rw [c748] at p721
                          obtain ⟨v750, c751⟩ : ∃ v, I704 a0 10 = v := ⟨_, rfl⟩
                          have b752 := iv15_10 hS709.1 ta0 c751
                          rw [c751] at p722
                          obtain ⟨v753, c754⟩ : ∃ v, I704 a0 11 = v := ⟨_, rfl⟩
                          rw [c754] at p723
                          obtain ⟨y755, c756⟩ : ∃ v, L706 a0 15 = v := ⟨_, rfl⟩
                          rw [c756] at p724
                          obtain ⟨v757, c758⟩ : ∃ v, I704 a0 12 = v := ⟨_, rfl⟩
                          rw [c758] at p725
                          obtain ⟨v759, c760⟩ : ∃ v, I704 a0 8 = v := ⟨_, rfl⟩
                          have b761 := iv15_8 hS709.1 ta0 c760
                          rw [c760] at p726
                          obtain ⟨v762, c763⟩ : ∃ v, I704 a0 14 = v := ⟨_, rfl⟩
                          exact ⟨rfl, rfl, rfl, rfl, rfl, hS709, (Or.inl ⟨(by first | done | omega), (fun q0 z0 => by obtain rfl := Option.some.inj ((d2).symm.trans z0); (try rw [((hS709.cell ta1 (by decide +kernel)).trans c30)]); first | done | omega), (fun q0 z0 => by obtain rfl := Option.some.inj ((d2).symm.trans z0); (try rw [((hS709.cell ta1 (by decide +kernel)).trans c34)]); first | done | omega), (fun q0 z0 => by obtain rfl := Option.some.inj ((d2).symm.trans z0); (try rw [((hS709.cell ta1 (by decide +kernel)).trans c38)]); first | done | omega), (fun q0 z0 => by obtain rfl := Option.some.inj ((d2).symm.trans z0); (try rw [((hS709.cell ta1 (by decide +kernel)).trans c42)]); first | done | omega), (fun q0 z0 => by obtain rfl := Option.some.inj ((d2).symm.trans z0); (try rw [c739]); first | done | omega), (fun q0 z0 => by obtain rfl := Option.some.inj ((d2).symm.trans z0); (try rw [((hS709.cell ta1 (by decide +kernel)).trans c50)]); first | done | omega), (fun q0 z0 => by obtain rfl := Option.some.inj ((d2).symm.trans z0); (try rw [((hS709.cell ta1 (by decide +kernel)).trans c54)]); first | done | omega), (fun q0 z0 => by obtain rfl := Option.some.inj ((d2).symm.trans z0); (try rw [((hS709.cell ta1 (by decide +kernel)).trans c58)]); first | done | omega), (by (try rw [c746]); (try rw [c65]); first | done | omega), (by (try rw [c748]); first | done | omega), (by (try rw [c748]); first | done | omega), (by (try rw [c751]); first | done | omega), (by (try rw [c754]); first | done | omega), (by (try rw [c756]); first | done | assumption), (by (try rw [c758]); first | done | assumption), (by (try rw [c760]); first | done | assumption), hL733, rp728, trivial⟩), trivial⟩
                        · skip
                          obtain ⟨v764, c765⟩ : ∃ v, I704 a0 9 = v := ⟨_, rfl⟩
                          have b766 := iv15_9 hS709.1 ta0 c765
                          rw [c765] at p730
                          obtain ⟨v767, c768⟩ : ∃ v, I704 a0 13 = v := ⟨_, rfl⟩
                          rw [c768] at p731
                          obtain ⟨v769, c770⟩ : ∃ v, I704 a0 14 = v := ⟨_, rfl⟩
                          rw [c770] at p732
                          obtain ⟨v771, c772⟩ : ∃ v, I704 a1 4 = v := ⟨_, rfl⟩
                          have b773 := iv14_4 hS709.1 ta1 c772
                          obtain ⟨v774, c775⟩ : ∃ v, I704 a0 10 = v := ⟨_, rfl⟩
                          have b776 := iv15_10 hS709.1 ta0 c775
                          obtain ⟨v777, c778⟩ : ∃ v, I704 a0 11 = v := ⟨_, rfl⟩
                          obtain ⟨y779, c780⟩ : ∃ v, L706 a0 15 = v := ⟨_, rfl⟩
                          obtain ⟨v781, c782⟩ : ∃ v, I704 a0 12 = v := ⟨_, rfl⟩
                          obtain ⟨v783, c784⟩ : ∃ v, I704 a0 8 = v := ⟨_, rfl⟩
                          have b785 := iv15_8 hS709.1 ta0 c784
                          exact ⟨rfl, rfl, rfl, rfl, rfl, hS709, (Or.inr (⟨(by first | done | omega), (by (try rw [c765]); first | done | omega), (by (try rw [c768]); first | done | omega), (by (try rw [c770]); first | done | omega), trivial⟩)), trivial⟩
                      · skip
                        exfalso; omega
                  · skip
                    rw [c658] at p674
                    rw [c503] at p674
                    obtain ⟨v786, c787⟩ : ∃ v, I647 a0 9 = v := ⟨_, rfl⟩
                    have b788 := iv15_9 hS656.1 ta0 c787
                    rw [c787] at p675
                    rw [c787] at p676
                    obtain ⟨v789, c790⟩ : ∃ v, I647 a0 10 = v := ⟨_, rfl⟩
                    have b791 := iv15_10 hS656.1 ta0 c790
                    rw [c790] at p677
                    obtain ⟨v792, c793⟩ : ∃ v, I647 a0 11 = v := ⟨_, rfl⟩
                    rw [c793] at p678
                    obtain ⟨y794, c795⟩ : ∃ v, L649 a0 15 = v := ⟨_, rfl⟩
                    rw [c795] at p679
                    obtain ⟨v796, c797⟩ : ∃ v, I647 a0 12 = v := ⟨_, rfl⟩
                    rw [c797] at p680
                    obtain ⟨v798, c799⟩ : ∃ v, I647 a0 8 = v := ⟨_, rfl⟩
                    have b800 := iv15_8 hS656.1 ta0 c799
                    rw [c799] at p681
                    refine q_if_eq 72 dX12_readTurner_65 (by decide) (fun h801 => ?_) (fun h801 => ?_)
                    · skip
                      refine q_iconst dX12_readTurner_72 (by decide) ?_
                      intro v802 h803
                      refine tr_istore_n dX12_readTurner_73 (by decide) (by decide) ?_
                      have kd804 : tkd gB (tkN gB (tkN gB gs)) = -1 := tkd_no p208 p363 p518 p673
                      have kd804x : tkd gB (tkN gB (tkN gB gs)) = v802.toInt := by omega
                      refine tr_iload_n dX12_readTurner_74 rfl ?_
                      refine q_iconst dX12_readTurner_75 (by decide) ?_
                      intro v805 h806
                      refine q_icmp_ne 84 dX12_readTurner_76 (by decide) (fun h807 => ?_) (fun h807 => ?_)
                      · skip
                        exfalso; omega
                      · skip
                        replace hF := hF.pos (by omega)
                        replace hP := hP.pos (by omega)
                        refine tr_aload_n dX12_readTurner_79 rfl ?_
                        refine q_iconst dX12_readTurner_80 (by decide) ?_
                        intro v808 h809
                        refine q_callVv hE (M' := mX12_flaw) (as := [_]) dX12_readTurner_81 lk12_145 inX12_flaw seX12_flaw myX12_flaw (by decide) ⟨by decide, by decide⟩ rfl (kR15 hS656.1 ta0) (Nat.le_of_ble_eq_true rfl) rfl rfl (by decide) (by decide) (fk_X12_flaw hS656.1  ta0 (by omega) (by (try rw [c787]); first | done | omega)) ?_
                        rintro cn' K' N' I810 R811 L812 ⟨rfl, rfl, rfl, rfl, rfl, g813, p816, p817, p818, -⟩
                        have hM819 : NmM I810 R0 L649 a1 gQ := NmM.kpS hM660 g813 hS656.1 ta1 (by decide +kernel) (by decide +kernel)
                        have hS820 := hS656.tr g813 (by decide +kernel) (by decide +kernel)
                        have c821 : I810 a1 4 = v45 := (g813.cell ta1 (by decide +kernel)).trans c657
                        have c822 : I810 a0 10 = v789 := (g813.cell ta0 (by decide +kernel)).trans c790
                        have c823 : I810 a0 11 = v792 := (g813.cell ta0 (by decide +kernel)).trans c793
                        have c824 : I810 a0 12 = v796 := (g813.cell ta0 (by decide +kernel)).trans c797
                        have c825 : I810 a0 8 = v798 := (g813.cell ta0 (by decide +kernel)).trans c799
                        obtain ⟨v826, c827⟩ : ∃ v, I810 a0 9 = v := ⟨_, rfl⟩
                        have b828 := iv15_9 hS820.1 ta0 c827
                        rw [c827] at p816
                        obtain ⟨v829, c830⟩ : ∃ v, I810 a0 13 = v := ⟨_, rfl⟩
                        rw [c830] at p817
                        obtain ⟨v831, c832⟩ : ∃ v, I810 a0 14 = v := ⟨_, rfl⟩
                        rw [c832] at p818
                        rw [c790] at p818
                        refine sf_tuO hE hZ hS820.1 (gB) ta0 (by (try rw [c827]); first | done | omega) ⟨_, d2⟩ rfl rfl rfl ?_
                        rintro I833 R834 L835 ⟨g836, p837, p838, p839, -⟩
                        obtain rfl : R0 = R834 := funext fun a => funext fun j => (g836.2.2 a j (wm_no rfl)).symm
                        have hS840 := hS820.tr g836 (by decide +kernel) (by decide +kernel)
                        have c841 : I833 a1 4 = v45 := (g836.cell ta1 (by decide +kernel)).trans c821
                        obtain ⟨v842, c843⟩ : ∃ v, I833 a0 9 = v := ⟨_, rfl⟩
                        have b844 := iv15_9 hS840.1 ta0 c843
                        rw [c843] at p837
                        obtain ⟨v845, c846⟩ : ∃ v, I833 a0 13 = v := ⟨_, rfl⟩
                        rw [c846] at p838
                        rw [c830] at p838
                        obtain ⟨v847, c848⟩ : ∃ v, I833 a0 14 = v := ⟨_, rfl⟩
                        rw [c848] at p839
                        rw [c832] at p839
                        have eF := hF.eq
                        have eP := hP.eq
                        obtain ⟨v849, c850⟩ : ∃ v, I833 a0 10 = v := ⟨_, rfl⟩
                        have b851 := iv15_10 hS840.1 ta0 c850
                        obtain ⟨v852, c853⟩ : ∃ v, I833 a0 11 = v := ⟨_, rfl⟩
                        obtain ⟨y854, c855⟩ : ∃ v, L835 a0 15 = v := ⟨_, rfl⟩
                        obtain ⟨v856, c857⟩ : ∃ v, I833 a0 12 = v := ⟨_, rfl⟩
                        obtain ⟨v858, c859⟩ : ∃ v, I833 a0 8 = v := ⟨_, rfl⟩
                        have b860 := iv15_8 hS840.1 ta0 c859
                        exact ⟨rfl, rfl, rfl, rfl, rfl, hS840, (Or.inr (⟨(by first | done | omega), (by (try rw [c843]); first | done | omega), (by (try rw [c846]); first | done | omega), (by (try rw [c848]); first | done | omega), trivial⟩)), trivial⟩
                    · skip
                      exfalso; omega
                · skip
                  exfalso; omega
            · skip
              exfalso; omega
        · skip
          exfalso; omega
    · skip
      obtain ⟨v861, c862⟩ : ∃ v, I130 a0 9 = v := ⟨_, rfl⟩
      have b863 := iv15_9 hS138.1 ta0 c862
      rw [c862] at p155
      obtain ⟨v864, c865⟩ : ∃ v, I130 a0 13 = v := ⟨_, rfl⟩
      rw [c865] at p156
      obtain ⟨v866, c867⟩ : ∃ v, I130 a0 14 = v := ⟨_, rfl⟩
      rw [c867] at p157
      replace hF := hF.pos (by omega)
      replace hP := hP.pos (by omega)
      refine tr_lstore_n dX12_readTurner_16 (by decide) (by decide) (by decide) ?_
      refine tr_aload_n dX12_readTurner_17 rfl ?_
      refine tr_ldcwS dX12_readTurner_18 ld12_318 ?_
      refine q_callVi hE (M' := mX12_eatsWord) (as := [_]) dX12_readTurner_21 lk12_290 inX12_eatsWord seX12_eatsWord myX12_eatsWord (by decide) ⟨by decide, by decide⟩ rfl (kR15 hS138.1 ta0) (Nat.le_of_ble_eq_true rfl) rfl rfl (by decide) (by decide) (k_X12_eatsWord hS138.1 ta0 (by decide)) ?_
      rintro v872 cn' K' N' I868 R869 L870 ⟨rfl, rfl, rfl, rfl, g871, h873, w874, -⟩
      have hS875 := hS138.tr g871 (by decide +kernel) (by decide +kernel)
      have c876 : I868 a1 4 = v45 := (g871.cell ta1 (by decide +kernel)).trans c139
      have c877 : I868 a0 13 = v864 := (g871.cell ta0 (by decide +kernel)).trans c865
      have c878 : I868 a0 14 = v866 := (g871.cell ta0 (by decide +kernel)).trans c867
      have ov879 := w874.over (by rw [c862]; omega)
      obtain ⟨v880, c881⟩ : ∃ v, I868 a0 9 = v := ⟨_, rfl⟩
      have b882 := iv15_9 hS875.1 ta0 c881
      obtain ⟨v883, c884⟩ : ∃ v, I868 a0 13 = v := ⟨_, rfl⟩
      obtain ⟨v885, c886⟩ : ∃ v, I868 a0 14 = v := ⟨_, rfl⟩
      (try rw [c881] at ov879)
      (try rw [c884] at ov879)
      (try rw [c886] at ov879)
      (try rw [c862] at ov879)
      (try rw [c865] at ov879)
      (try rw [c867] at ov879)
      refine q_if_eq 31 dX12_readTurner_24 (by decide) (fun h887 => ?_) (fun h887 => ?_)
      · skip
        refine tr_aload_n dX12_readTurner_31 rfl ?_
        refine tr_ldcwS dX12_readTurner_32 ld12_320 ?_
        refine q_callVi hE (M' := mX12_eatsWord) (as := [_]) dX12_readTurner_35 lk12_290 inX12_eatsWord seX12_eatsWord myX12_eatsWord (by decide) ⟨by decide, by decide⟩ rfl (kR15 hS875.1 ta0) (Nat.le_of_ble_eq_true rfl) rfl rfl (by decide) (by decide) (k_X12_eatsWord hS875.1 ta0 (by decide)) ?_
        rintro v892 cn' K' N' I888 R889 L890 ⟨rfl, rfl, rfl, rfl, g891, h893, w894, -⟩
        have hS895 := hS875.tr g891 (by decide +kernel) (by decide +kernel)
        have c896 : I888 a1 4 = v45 := (g891.cell ta1 (by decide +kernel)).trans c876
        have c897 : I888 a0 13 = v883 := (g891.cell ta0 (by decide +kernel)).trans c884
        have c898 : I888 a0 14 = v885 := (g891.cell ta0 (by decide +kernel)).trans c886
        have ov899 := w894.over (by rw [c881]; omega)
        obtain ⟨v900, c901⟩ : ∃ v, I888 a0 9 = v := ⟨_, rfl⟩
        have b902 := iv15_9 hS895.1 ta0 c901
        obtain ⟨v903, c904⟩ : ∃ v, I888 a0 13 = v := ⟨_, rfl⟩
        obtain ⟨v905, c906⟩ : ∃ v, I888 a0 14 = v := ⟨_, rfl⟩
        (try rw [c901] at ov899)
        (try rw [c904] at ov899)
        (try rw [c906] at ov899)
        (try rw [c881] at ov899)
        (try rw [c884] at ov899)
        (try rw [c886] at ov899)
        refine q_if_eq 45 dX12_readTurner_38 (by decide) (fun h907 => ?_) (fun h907 => ?_)
        · skip
          refine tr_aload_n dX12_readTurner_45 rfl ?_
          refine tr_ldcwS dX12_readTurner_46 ld12_322 ?_
          refine q_callVi hE (M' := mX12_eatsWord) (as := [_]) dX12_readTurner_49 lk12_290 inX12_eatsWord seX12_eatsWord myX12_eatsWord (by decide) ⟨by decide, by decide⟩ rfl (kR15 hS895.1 ta0) (Nat.le_of_ble_eq_true rfl) rfl rfl (by decide) (by decide) (k_X12_eatsWord hS895.1 ta0 (by decide)) ?_
          rintro v912 cn' K' N' I908 R909 L910 ⟨rfl, rfl, rfl, rfl, g911, h913, w914, -⟩
          have hS915 := hS895.tr g911 (by decide +kernel) (by decide +kernel)
          have c916 : I908 a1 4 = v45 := (g911.cell ta1 (by decide +kernel)).trans c896
          have c917 : I908 a0 13 = v903 := (g911.cell ta0 (by decide +kernel)).trans c904
          have c918 : I908 a0 14 = v905 := (g911.cell ta0 (by decide +kernel)).trans c906
          have ov919 := w914.over (by rw [c901]; omega)
          obtain ⟨v920, c921⟩ : ∃ v, I908 a0 9 = v := ⟨_, rfl⟩
          have b922 := iv15_9 hS915.1 ta0 c921
          obtain ⟨v923, c924⟩ : ∃ v, I908 a0 13 = v := ⟨_, rfl⟩
          obtain ⟨v925, c926⟩ : ∃ v, I908 a0 14 = v := ⟨_, rfl⟩
          (try rw [c921] at ov919)
          (try rw [c924] at ov919)
          (try rw [c926] at ov919)
          (try rw [c901] at ov919)
          (try rw [c904] at ov919)
          (try rw [c906] at ov919)
          refine q_if_eq 59 dX12_readTurner_52 (by decide) (fun h927 => ?_) (fun h927 => ?_)
          · skip
            refine tr_aload_n dX12_readTurner_59 rfl ?_
            refine tr_ldcS dX12_readTurner_60 ld12_178 ?_
            refine q_callVi hE (M' := mX12_eatsWord) (as := [_]) dX12_readTurner_62 lk12_290 inX12_eatsWord seX12_eatsWord myX12_eatsWord (by decide) ⟨by decide, by decide⟩ rfl (kR15 hS915.1 ta0) (Nat.le_of_ble_eq_true rfl) rfl rfl (by decide) (by decide) (k_X12_eatsWord hS915.1 ta0 (by decide)) ?_
            rintro v932 cn' K' N' I928 R929 L930 ⟨rfl, rfl, rfl, rfl, g931, h933, w934, -⟩
            have hS935 := hS915.tr g931 (by decide +kernel) (by decide +kernel)
            have c936 : I928 a1 4 = v45 := (g931.cell ta1 (by decide +kernel)).trans c916
            have c937 : I928 a0 13 = v923 := (g931.cell ta0 (by decide +kernel)).trans c924
            have c938 : I928 a0 14 = v925 := (g931.cell ta0 (by decide +kernel)).trans c926
            have ov939 := w934.over (by rw [c921]; omega)
            obtain ⟨v940, c941⟩ : ∃ v, I928 a0 9 = v := ⟨_, rfl⟩
            have b942 := iv15_9 hS935.1 ta0 c941
            obtain ⟨v943, c944⟩ : ∃ v, I928 a0 13 = v := ⟨_, rfl⟩
            obtain ⟨v945, c946⟩ : ∃ v, I928 a0 14 = v := ⟨_, rfl⟩
            (try rw [c941] at ov939)
            (try rw [c944] at ov939)
            (try rw [c946] at ov939)
            (try rw [c921] at ov939)
            (try rw [c924] at ov939)
            (try rw [c926] at ov939)
            refine q_if_eq 72 dX12_readTurner_65 (by decide) (fun h947 => ?_) (fun h947 => ?_)
            · skip
              refine q_iconst dX12_readTurner_72 (by decide) ?_
              intro v948 h949
              refine tr_istore_n dX12_readTurner_73 (by decide) (by decide) ?_
              refine tr_iload_n dX12_readTurner_74 rfl ?_
              refine q_iconst dX12_readTurner_75 (by decide) ?_
              intro v950 h951
              refine q_icmp_ne 84 dX12_readTurner_76 (by decide) (fun h952 => ?_) (fun h952 => ?_)
              · skip
                exfalso; omega
              · skip
                refine tr_aload_n dX12_readTurner_79 rfl ?_
                refine q_iconst dX12_readTurner_80 (by decide) ?_
                intro v953 h954
                obtain ⟨v955, c956⟩ : ∃ v, I928 a0 8 = v := ⟨_, rfl⟩
                have b957 := iv15_8 hS935.1 ta0 c956
                refine q_callVv hE (M' := mX12_flaw) (as := [_]) dX12_readTurner_81 lk12_145 inX12_flaw seX12_flaw myX12_flaw (by decide) ⟨by decide, by decide⟩ rfl (kR15 hS935.1 ta0) (Nat.le_of_ble_eq_true rfl) rfl rfl (by decide) (by decide) (k_X12_flaw hS935.1 ta0 (by omega)) ?_
                rintro cn' K' N' I958 R959 L960 ⟨rfl, rfl, rfl, rfl, rfl, g961, p963, p964, w965, -⟩
                have hS966 := hS935.tr g961 (by decide +kernel) (by decide +kernel)
                have c967 : I958 a1 4 = v45 := (g961.cell ta1 (by decide +kernel)).trans c936
                have c968 : I958 a0 8 = v955 := (g961.cell ta0 (by decide +kernel)).trans c956
                obtain ⟨v969, c970⟩ : ∃ v, I958 a0 9 = v := ⟨_, rfl⟩
                have b971 := iv15_9 hS966.1 ta0 c970
                rw [c970] at p963
                rw [c968] at p964
                rw [c956] at p964
                have ov972 := w965.over (by rw [c941]; omega)
                obtain ⟨v973, c974⟩ : ∃ v, I958 a0 9 = v := ⟨_, rfl⟩
                have b975 := iv15_9 hS966.1 ta0 c974
                obtain ⟨v976, c977⟩ : ∃ v, I958 a0 13 = v := ⟨_, rfl⟩
                obtain ⟨v978, c979⟩ : ∃ v, I958 a0 14 = v := ⟨_, rfl⟩
                (try rw [c974] at ov972)
                (try rw [c977] at ov972)
                (try rw [c979] at ov972)
                (try rw [c941] at ov972)
                (try rw [c944] at ov972)
                (try rw [c946] at ov972)
                refine sf_tuO hE hZ hS966.1 (gB) ta0 (by (try rw [c974]); first | done | omega) ⟨_, d2⟩ rfl rfl rfl ?_
                rintro I980 R981 L982 ⟨g983, p984, p985, p986, -⟩
                obtain rfl : R0 = R981 := funext fun a => funext fun j => (g983.2.2 a j (wm_no rfl)).symm
                have hS987 := hS966.tr g983 (by decide +kernel) (by decide +kernel)
                have c988 : I980 a1 4 = v45 := (g983.cell ta1 (by decide +kernel)).trans c967
                obtain ⟨v989, c990⟩ : ∃ v, I980 a0 9 = v := ⟨_, rfl⟩
                have b991 := iv15_9 hS987.1 ta0 c990
                rw [c990] at p984
                obtain ⟨v992, c993⟩ : ∃ v, I980 a0 13 = v := ⟨_, rfl⟩
                rw [c993] at p985
                rw [c977] at p985
                obtain ⟨v994, c995⟩ : ∃ v, I980 a0 14 = v := ⟨_, rfl⟩
                rw [c995] at p986
                rw [c979] at p986
                have eF := hF.eq
                have eP := hP.eq
                obtain ⟨v996, c997⟩ : ∃ v, I980 a0 10 = v := ⟨_, rfl⟩
                have b998 := iv15_10 hS987.1 ta0 c997
                obtain ⟨v999, c1000⟩ : ∃ v, I980 a0 11 = v := ⟨_, rfl⟩
                obtain ⟨y1001, c1002⟩ : ∃ v, L982 a0 15 = v := ⟨_, rfl⟩
                obtain ⟨v1003, c1004⟩ : ∃ v, I980 a0 12 = v := ⟨_, rfl⟩
                obtain ⟨v1005, c1006⟩ : ∃ v, I980 a0 8 = v := ⟨_, rfl⟩
                have b1007 := iv15_8 hS987.1 ta0 c1006
                exact ⟨rfl, rfl, rfl, rfl, rfl, hS987, (Or.inr (⟨(by first | done | omega), (by (try rw [c990]); first | done | omega), (by (try rw [c993]); first | done | omega), (by (try rw [c995]); first | done | omega), trivial⟩)), trivial⟩
            · skip
              refine q_iconst dX12_readTurner_68 (by decide) ?_
              intro v1008 h1009
              refine tr_goto 73 dX12_readTurner_69 (by decide) ?_
              refine tr_istore_n dX12_readTurner_73 (by decide) (by decide) ?_
              refine tr_iload_n dX12_readTurner_74 rfl ?_
              refine q_iconst dX12_readTurner_75 (by decide) ?_
              intro v1010 h1011
              refine q_icmp_ne 84 dX12_readTurner_76 (by decide) (fun h1012 => ?_) (fun h1012 => ?_)
              · skip
                refine sf_tuO hE hZ hS935.1 (gB) ta0 (by (try rw [c941]); first | done | omega) ⟨_, d2⟩ rfl rfl rfl ?_
                rintro I1013 R1014 L1015 ⟨g1016, p1017, p1018, p1019, -⟩
                obtain rfl : R0 = R1014 := funext fun a => funext fun j => (g1016.2.2 a j (wm_no rfl)).symm
                have hS1020 := hS935.tr g1016 (by decide +kernel) (by decide +kernel)
                have c1021 : I1013 a1 4 = v45 := (g1016.cell ta1 (by decide +kernel)).trans c936
                obtain ⟨v1022, c1023⟩ : ∃ v, I1013 a0 9 = v := ⟨_, rfl⟩
                have b1024 := iv15_9 hS1020.1 ta0 c1023
                rw [c1023] at p1017
                obtain ⟨v1025, c1026⟩ : ∃ v, I1013 a0 13 = v := ⟨_, rfl⟩
                rw [c1026] at p1018
                rw [c944] at p1018
                obtain ⟨v1027, c1028⟩ : ∃ v, I1013 a0 14 = v := ⟨_, rfl⟩
                rw [c1028] at p1019
                rw [c946] at p1019
                have eF := hF.eq
                have eP := hP.eq
                obtain ⟨v1029, c1030⟩ : ∃ v, I1013 a0 10 = v := ⟨_, rfl⟩
                have b1031 := iv15_10 hS1020.1 ta0 c1030
                obtain ⟨v1032, c1033⟩ : ∃ v, I1013 a0 11 = v := ⟨_, rfl⟩
                obtain ⟨y1034, c1035⟩ : ∃ v, L1015 a0 15 = v := ⟨_, rfl⟩
                obtain ⟨v1036, c1037⟩ : ∃ v, I1013 a0 12 = v := ⟨_, rfl⟩
                obtain ⟨v1038, c1039⟩ : ∃ v, I1013 a0 8 = v := ⟨_, rfl⟩
                have b1040 := iv15_8 hS1020.1 ta0 c1039
                exact ⟨rfl, rfl, rfl, rfl, rfl, hS1020, (Or.inr (⟨(by first | done | omega), (by (try rw [c1023]); first | done | omega), (by (try rw [c1026]); first | done | omega), (by (try rw [c1028]); first | done | omega), trivial⟩)), trivial⟩
              · skip
                exfalso; omega
          · skip
            refine q_iconst dX12_readTurner_55 (by decide) ?_
            intro v1041 h1042
            refine tr_goto 73 dX12_readTurner_56 (by decide) ?_
            refine tr_istore_n dX12_readTurner_73 (by decide) (by decide) ?_
            refine tr_iload_n dX12_readTurner_74 rfl ?_
            refine q_iconst dX12_readTurner_75 (by decide) ?_
            intro v1043 h1044
            refine q_icmp_ne 84 dX12_readTurner_76 (by decide) (fun h1045 => ?_) (fun h1045 => ?_)
            · skip
              refine sf_tuO hE hZ hS915.1 (gB) ta0 (by (try rw [c921]); first | done | omega) ⟨_, d2⟩ rfl rfl rfl ?_
              rintro I1046 R1047 L1048 ⟨g1049, p1050, p1051, p1052, -⟩
              obtain rfl : R0 = R1047 := funext fun a => funext fun j => (g1049.2.2 a j (wm_no rfl)).symm
              have hS1053 := hS915.tr g1049 (by decide +kernel) (by decide +kernel)
              have c1054 : I1046 a1 4 = v45 := (g1049.cell ta1 (by decide +kernel)).trans c916
              obtain ⟨v1055, c1056⟩ : ∃ v, I1046 a0 9 = v := ⟨_, rfl⟩
              have b1057 := iv15_9 hS1053.1 ta0 c1056
              rw [c1056] at p1050
              obtain ⟨v1058, c1059⟩ : ∃ v, I1046 a0 13 = v := ⟨_, rfl⟩
              rw [c1059] at p1051
              rw [c924] at p1051
              obtain ⟨v1060, c1061⟩ : ∃ v, I1046 a0 14 = v := ⟨_, rfl⟩
              rw [c1061] at p1052
              rw [c926] at p1052
              have eF := hF.eq
              have eP := hP.eq
              obtain ⟨v1062, c1063⟩ : ∃ v, I1046 a0 10 = v := ⟨_, rfl⟩
              have b1064 := iv15_10 hS1053.1 ta0 c1063
              obtain ⟨v1065, c1066⟩ : ∃ v, I1046 a0 11 = v := ⟨_, rfl⟩
              obtain ⟨y1067, c1068⟩ : ∃ v, L1048 a0 15 = v := ⟨_, rfl⟩
              obtain ⟨v1069, c1070⟩ : ∃ v, I1046 a0 12 = v := ⟨_, rfl⟩
              obtain ⟨v1071, c1072⟩ : ∃ v, I1046 a0 8 = v := ⟨_, rfl⟩
              have b1073 := iv15_8 hS1053.1 ta0 c1072
              exact ⟨rfl, rfl, rfl, rfl, rfl, hS1053, (Or.inr (⟨(by first | done | omega), (by (try rw [c1056]); first | done | omega), (by (try rw [c1059]); first | done | omega), (by (try rw [c1061]); first | done | omega), trivial⟩)), trivial⟩
            · skip
              exfalso; omega
        · skip
          refine q_iconst dX12_readTurner_41 (by decide) ?_
          intro v1074 h1075
          refine tr_goto 73 dX12_readTurner_42 (by decide) ?_
          refine tr_istore_n dX12_readTurner_73 (by decide) (by decide) ?_
          refine tr_iload_n dX12_readTurner_74 rfl ?_
          refine q_iconst dX12_readTurner_75 (by decide) ?_
          intro v1076 h1077
          refine q_icmp_ne 84 dX12_readTurner_76 (by decide) (fun h1078 => ?_) (fun h1078 => ?_)
          · skip
            refine sf_tuO hE hZ hS895.1 (gB) ta0 (by (try rw [c901]); first | done | omega) ⟨_, d2⟩ rfl rfl rfl ?_
            rintro I1079 R1080 L1081 ⟨g1082, p1083, p1084, p1085, -⟩
            obtain rfl : R0 = R1080 := funext fun a => funext fun j => (g1082.2.2 a j (wm_no rfl)).symm
            have hS1086 := hS895.tr g1082 (by decide +kernel) (by decide +kernel)
            have c1087 : I1079 a1 4 = v45 := (g1082.cell ta1 (by decide +kernel)).trans c896
            obtain ⟨v1088, c1089⟩ : ∃ v, I1079 a0 9 = v := ⟨_, rfl⟩
            have b1090 := iv15_9 hS1086.1 ta0 c1089
            rw [c1089] at p1083
            obtain ⟨v1091, c1092⟩ : ∃ v, I1079 a0 13 = v := ⟨_, rfl⟩
            rw [c1092] at p1084
            rw [c904] at p1084
            obtain ⟨v1093, c1094⟩ : ∃ v, I1079 a0 14 = v := ⟨_, rfl⟩
            rw [c1094] at p1085
            rw [c906] at p1085
            have eF := hF.eq
            have eP := hP.eq
            obtain ⟨v1095, c1096⟩ : ∃ v, I1079 a0 10 = v := ⟨_, rfl⟩
            have b1097 := iv15_10 hS1086.1 ta0 c1096
            obtain ⟨v1098, c1099⟩ : ∃ v, I1079 a0 11 = v := ⟨_, rfl⟩
            obtain ⟨y1100, c1101⟩ : ∃ v, L1081 a0 15 = v := ⟨_, rfl⟩
            obtain ⟨v1102, c1103⟩ : ∃ v, I1079 a0 12 = v := ⟨_, rfl⟩
            obtain ⟨v1104, c1105⟩ : ∃ v, I1079 a0 8 = v := ⟨_, rfl⟩
            have b1106 := iv15_8 hS1086.1 ta0 c1105
            exact ⟨rfl, rfl, rfl, rfl, rfl, hS1086, (Or.inr (⟨(by first | done | omega), (by (try rw [c1089]); first | done | omega), (by (try rw [c1092]); first | done | omega), (by (try rw [c1094]); first | done | omega), trivial⟩)), trivial⟩
          · skip
            exfalso; omega
      · skip
        refine q_iconst dX12_readTurner_27 (by decide) ?_
        intro v1107 h1108
        refine tr_goto 73 dX12_readTurner_28 (by decide) ?_
        refine tr_istore_n dX12_readTurner_73 (by decide) (by decide) ?_
        refine tr_iload_n dX12_readTurner_74 rfl ?_
        refine q_iconst dX12_readTurner_75 (by decide) ?_
        intro v1109 h1110
        refine q_icmp_ne 84 dX12_readTurner_76 (by decide) (fun h1111 => ?_) (fun h1111 => ?_)
        · skip
          refine sf_tuO hE hZ hS875.1 (gB) ta0 (by (try rw [c881]); first | done | omega) ⟨_, d2⟩ rfl rfl rfl ?_
          rintro I1112 R1113 L1114 ⟨g1115, p1116, p1117, p1118, -⟩
          obtain rfl : R0 = R1113 := funext fun a => funext fun j => (g1115.2.2 a j (wm_no rfl)).symm
          have hS1119 := hS875.tr g1115 (by decide +kernel) (by decide +kernel)
          have c1120 : I1112 a1 4 = v45 := (g1115.cell ta1 (by decide +kernel)).trans c876
          obtain ⟨v1121, c1122⟩ : ∃ v, I1112 a0 9 = v := ⟨_, rfl⟩
          have b1123 := iv15_9 hS1119.1 ta0 c1122
          rw [c1122] at p1116
          obtain ⟨v1124, c1125⟩ : ∃ v, I1112 a0 13 = v := ⟨_, rfl⟩
          rw [c1125] at p1117
          rw [c884] at p1117
          obtain ⟨v1126, c1127⟩ : ∃ v, I1112 a0 14 = v := ⟨_, rfl⟩
          rw [c1127] at p1118
          rw [c886] at p1118
          have eF := hF.eq
          have eP := hP.eq
          obtain ⟨v1128, c1129⟩ : ∃ v, I1112 a0 10 = v := ⟨_, rfl⟩
          have b1130 := iv15_10 hS1119.1 ta0 c1129
          obtain ⟨v1131, c1132⟩ : ∃ v, I1112 a0 11 = v := ⟨_, rfl⟩
          obtain ⟨y1133, c1134⟩ : ∃ v, L1114 a0 15 = v := ⟨_, rfl⟩
          obtain ⟨v1135, c1136⟩ : ∃ v, I1112 a0 12 = v := ⟨_, rfl⟩
          obtain ⟨v1137, c1138⟩ : ∃ v, I1112 a0 8 = v := ⟨_, rfl⟩
          have b1139 := iv15_8 hS1119.1 ta0 c1138
          exact ⟨rfl, rfl, rfl, rfl, rfl, hS1119, (Or.inr (⟨(by first | done | omega), (by (try rw [c1122]); first | done | omega), (by (try rw [c1125]); first | done | omega), (by (try rw [c1127]); first | done | omega), trivial⟩)), trivial⟩
        · skip
          exfalso; omega
    · skip
      obtain ⟨v1140, c1141⟩ : ∃ v, I130 a0 9 = v := ⟨_, rfl⟩
      have b1142 := iv15_9 hS138.1 ta0 c1141
      rw [c1141] at p160
      obtain ⟨v1143, c1144⟩ : ∃ v, I130 a0 13 = v := ⟨_, rfl⟩
      rw [c1144] at p161
      obtain ⟨v1145, c1146⟩ : ∃ v, I130 a0 14 = v := ⟨_, rfl⟩
      rw [c1146] at p162
      replace hF := hF.neg (by omega)
      replace hP := hP.neg (by omega)
      replace hF := hF.pos (by omega)
      replace hP := hP.pos (by omega)
      refine tr_lstore_n dX12_readTurner_16 (by decide) (by decide) (by decide) ?_
      refine tr_aload_n dX12_readTurner_17 rfl ?_
      refine tr_ldcwS dX12_readTurner_18 ld12_318 ?_
      refine q_callVi hE (M' := mX12_eatsWord) (as := [_]) dX12_readTurner_21 lk12_290 inX12_eatsWord seX12_eatsWord myX12_eatsWord (by decide) ⟨by decide, by decide⟩ rfl (kR15 hS138.1 ta0) (Nat.le_of_ble_eq_true rfl) rfl rfl (by decide) (by decide) (k_X12_eatsWord hS138.1 ta0 (by decide)) ?_
      rintro v1151 cn' K' N' I1147 R1148 L1149 ⟨rfl, rfl, rfl, rfl, g1150, h1152, w1153, -⟩
      have hS1154 := hS138.tr g1150 (by decide +kernel) (by decide +kernel)
      have c1155 : I1147 a1 4 = v45 := (g1150.cell ta1 (by decide +kernel)).trans c139
      have c1156 : I1147 a0 13 = v1143 := (g1150.cell ta0 (by decide +kernel)).trans c1144
      have c1157 : I1147 a0 14 = v1145 := (g1150.cell ta0 (by decide +kernel)).trans c1146
      have ov1158 := w1153.over (by rw [c1141]; omega)
      obtain ⟨v1159, c1160⟩ : ∃ v, I1147 a0 9 = v := ⟨_, rfl⟩
      have b1161 := iv15_9 hS1154.1 ta0 c1160
      obtain ⟨v1162, c1163⟩ : ∃ v, I1147 a0 13 = v := ⟨_, rfl⟩
      obtain ⟨v1164, c1165⟩ : ∃ v, I1147 a0 14 = v := ⟨_, rfl⟩
      (try rw [c1160] at ov1158)
      (try rw [c1163] at ov1158)
      (try rw [c1165] at ov1158)
      (try rw [c1141] at ov1158)
      (try rw [c1144] at ov1158)
      (try rw [c1146] at ov1158)
      refine q_if_eq 31 dX12_readTurner_24 (by decide) (fun h1166 => ?_) (fun h1166 => ?_)
      · skip
        refine tr_aload_n dX12_readTurner_31 rfl ?_
        refine tr_ldcwS dX12_readTurner_32 ld12_320 ?_
        refine q_callVi hE (M' := mX12_eatsWord) (as := [_]) dX12_readTurner_35 lk12_290 inX12_eatsWord seX12_eatsWord myX12_eatsWord (by decide) ⟨by decide, by decide⟩ rfl (kR15 hS1154.1 ta0) (Nat.le_of_ble_eq_true rfl) rfl rfl (by decide) (by decide) (k_X12_eatsWord hS1154.1 ta0 (by decide)) ?_
        rintro v1171 cn' K' N' I1167 R1168 L1169 ⟨rfl, rfl, rfl, rfl, g1170, h1172, w1173, -⟩
        have hS1174 := hS1154.tr g1170 (by decide +kernel) (by decide +kernel)
        have c1175 : I1167 a1 4 = v45 := (g1170.cell ta1 (by decide +kernel)).trans c1155
        have c1176 : I1167 a0 13 = v1162 := (g1170.cell ta0 (by decide +kernel)).trans c1163
        have c1177 : I1167 a0 14 = v1164 := (g1170.cell ta0 (by decide +kernel)).trans c1165
        have ov1178 := w1173.over (by rw [c1160]; omega)
        obtain ⟨v1179, c1180⟩ : ∃ v, I1167 a0 9 = v := ⟨_, rfl⟩
        have b1181 := iv15_9 hS1174.1 ta0 c1180
        obtain ⟨v1182, c1183⟩ : ∃ v, I1167 a0 13 = v := ⟨_, rfl⟩
        obtain ⟨v1184, c1185⟩ : ∃ v, I1167 a0 14 = v := ⟨_, rfl⟩
        (try rw [c1180] at ov1178)
        (try rw [c1183] at ov1178)
        (try rw [c1185] at ov1178)
        (try rw [c1160] at ov1178)
        (try rw [c1163] at ov1178)
        (try rw [c1165] at ov1178)
        refine q_if_eq 45 dX12_readTurner_38 (by decide) (fun h1186 => ?_) (fun h1186 => ?_)
        · skip
          refine tr_aload_n dX12_readTurner_45 rfl ?_
          refine tr_ldcwS dX12_readTurner_46 ld12_322 ?_
          refine q_callVi hE (M' := mX12_eatsWord) (as := [_]) dX12_readTurner_49 lk12_290 inX12_eatsWord seX12_eatsWord myX12_eatsWord (by decide) ⟨by decide, by decide⟩ rfl (kR15 hS1174.1 ta0) (Nat.le_of_ble_eq_true rfl) rfl rfl (by decide) (by decide) (k_X12_eatsWord hS1174.1 ta0 (by decide)) ?_
          rintro v1191 cn' K' N' I1187 R1188 L1189 ⟨rfl, rfl, rfl, rfl, g1190, h1192, w1193, -⟩
          have hS1194 := hS1174.tr g1190 (by decide +kernel) (by decide +kernel)
          have c1195 : I1187 a1 4 = v45 := (g1190.cell ta1 (by decide +kernel)).trans c1175
          have c1196 : I1187 a0 13 = v1182 := (g1190.cell ta0 (by decide +kernel)).trans c1183
          have c1197 : I1187 a0 14 = v1184 := (g1190.cell ta0 (by decide +kernel)).trans c1185
          have ov1198 := w1193.over (by rw [c1180]; omega)
          obtain ⟨v1199, c1200⟩ : ∃ v, I1187 a0 9 = v := ⟨_, rfl⟩
          have b1201 := iv15_9 hS1194.1 ta0 c1200
          obtain ⟨v1202, c1203⟩ : ∃ v, I1187 a0 13 = v := ⟨_, rfl⟩
          obtain ⟨v1204, c1205⟩ : ∃ v, I1187 a0 14 = v := ⟨_, rfl⟩
          (try rw [c1200] at ov1198)
          (try rw [c1203] at ov1198)
          (try rw [c1205] at ov1198)
          (try rw [c1180] at ov1198)
          (try rw [c1183] at ov1198)
          (try rw [c1185] at ov1198)
          refine q_if_eq 59 dX12_readTurner_52 (by decide) (fun h1206 => ?_) (fun h1206 => ?_)
          · skip
            refine tr_aload_n dX12_readTurner_59 rfl ?_
            refine tr_ldcS dX12_readTurner_60 ld12_178 ?_
            refine q_callVi hE (M' := mX12_eatsWord) (as := [_]) dX12_readTurner_62 lk12_290 inX12_eatsWord seX12_eatsWord myX12_eatsWord (by decide) ⟨by decide, by decide⟩ rfl (kR15 hS1194.1 ta0) (Nat.le_of_ble_eq_true rfl) rfl rfl (by decide) (by decide) (k_X12_eatsWord hS1194.1 ta0 (by decide)) ?_
            rintro v1211 cn' K' N' I1207 R1208 L1209 ⟨rfl, rfl, rfl, rfl, g1210, h1212, w1213, -⟩
            have hS1214 := hS1194.tr g1210 (by decide +kernel) (by decide +kernel)
            have c1215 : I1207 a1 4 = v45 := (g1210.cell ta1 (by decide +kernel)).trans c1195
            have c1216 : I1207 a0 13 = v1202 := (g1210.cell ta0 (by decide +kernel)).trans c1203
            have c1217 : I1207 a0 14 = v1204 := (g1210.cell ta0 (by decide +kernel)).trans c1205
            have ov1218 := w1213.over (by rw [c1200]; omega)
            obtain ⟨v1219, c1220⟩ : ∃ v, I1207 a0 9 = v := ⟨_, rfl⟩
            have b1221 := iv15_9 hS1214.1 ta0 c1220
            obtain ⟨v1222, c1223⟩ : ∃ v, I1207 a0 13 = v := ⟨_, rfl⟩
            obtain ⟨v1224, c1225⟩ : ∃ v, I1207 a0 14 = v := ⟨_, rfl⟩
            (try rw [c1220] at ov1218)
            (try rw [c1223] at ov1218)
            (try rw [c1225] at ov1218)
            (try rw [c1200] at ov1218)
            (try rw [c1203] at ov1218)
            (try rw [c1205] at ov1218)
            refine q_if_eq 72 dX12_readTurner_65 (by decide) (fun h1226 => ?_) (fun h1226 => ?_)
            · skip
              refine q_iconst dX12_readTurner_72 (by decide) ?_
              intro v1227 h1228
              refine tr_istore_n dX12_readTurner_73 (by decide) (by decide) ?_
              refine tr_iload_n dX12_readTurner_74 rfl ?_
              refine q_iconst dX12_readTurner_75 (by decide) ?_
              intro v1229 h1230
              refine q_icmp_ne 84 dX12_readTurner_76 (by decide) (fun h1231 => ?_) (fun h1231 => ?_)
              · skip
                exfalso; omega
              · skip
                refine tr_aload_n dX12_readTurner_79 rfl ?_
                refine q_iconst dX12_readTurner_80 (by decide) ?_
                intro v1232 h1233
                obtain ⟨v1234, c1235⟩ : ∃ v, I1207 a0 8 = v := ⟨_, rfl⟩
                have b1236 := iv15_8 hS1214.1 ta0 c1235
                refine q_callVv hE (M' := mX12_flaw) (as := [_]) dX12_readTurner_81 lk12_145 inX12_flaw seX12_flaw myX12_flaw (by decide) ⟨by decide, by decide⟩ rfl (kR15 hS1214.1 ta0) (Nat.le_of_ble_eq_true rfl) rfl rfl (by decide) (by decide) (k_X12_flaw hS1214.1 ta0 (by omega)) ?_
                rintro cn' K' N' I1237 R1238 L1239 ⟨rfl, rfl, rfl, rfl, rfl, g1240, p1242, p1243, w1244, -⟩
                have hS1245 := hS1214.tr g1240 (by decide +kernel) (by decide +kernel)
                have c1246 : I1237 a1 4 = v45 := (g1240.cell ta1 (by decide +kernel)).trans c1215
                have c1247 : I1237 a0 8 = v1234 := (g1240.cell ta0 (by decide +kernel)).trans c1235
                obtain ⟨v1248, c1249⟩ : ∃ v, I1237 a0 9 = v := ⟨_, rfl⟩
                have b1250 := iv15_9 hS1245.1 ta0 c1249
                rw [c1249] at p1242
                rw [c1247] at p1243
                rw [c1235] at p1243
                have ov1251 := w1244.over (by rw [c1220]; omega)
                obtain ⟨v1252, c1253⟩ : ∃ v, I1237 a0 9 = v := ⟨_, rfl⟩
                have b1254 := iv15_9 hS1245.1 ta0 c1253
                obtain ⟨v1255, c1256⟩ : ∃ v, I1237 a0 13 = v := ⟨_, rfl⟩
                obtain ⟨v1257, c1258⟩ : ∃ v, I1237 a0 14 = v := ⟨_, rfl⟩
                (try rw [c1253] at ov1251)
                (try rw [c1256] at ov1251)
                (try rw [c1258] at ov1251)
                (try rw [c1220] at ov1251)
                (try rw [c1223] at ov1251)
                (try rw [c1225] at ov1251)
                refine sf_tuO hE hZ hS1245.1 (gB) ta0 (by (try rw [c1253]); first | done | omega) ⟨_, d2⟩ rfl rfl rfl ?_
                rintro I1259 R1260 L1261 ⟨g1262, p1263, p1264, p1265, -⟩
                obtain rfl : R0 = R1260 := funext fun a => funext fun j => (g1262.2.2 a j (wm_no rfl)).symm
                have hS1266 := hS1245.tr g1262 (by decide +kernel) (by decide +kernel)
                have c1267 : I1259 a1 4 = v45 := (g1262.cell ta1 (by decide +kernel)).trans c1246
                obtain ⟨v1268, c1269⟩ : ∃ v, I1259 a0 9 = v := ⟨_, rfl⟩
                have b1270 := iv15_9 hS1266.1 ta0 c1269
                rw [c1269] at p1263
                obtain ⟨v1271, c1272⟩ : ∃ v, I1259 a0 13 = v := ⟨_, rfl⟩
                rw [c1272] at p1264
                rw [c1256] at p1264
                obtain ⟨v1273, c1274⟩ : ∃ v, I1259 a0 14 = v := ⟨_, rfl⟩
                rw [c1274] at p1265
                rw [c1258] at p1265
                have eF := hF.eq
                have eP := hP.eq
                obtain ⟨v1275, c1276⟩ : ∃ v, I1259 a0 10 = v := ⟨_, rfl⟩
                have b1277 := iv15_10 hS1266.1 ta0 c1276
                obtain ⟨v1278, c1279⟩ : ∃ v, I1259 a0 11 = v := ⟨_, rfl⟩
                obtain ⟨y1280, c1281⟩ : ∃ v, L1261 a0 15 = v := ⟨_, rfl⟩
                obtain ⟨v1282, c1283⟩ : ∃ v, I1259 a0 12 = v := ⟨_, rfl⟩
                obtain ⟨v1284, c1285⟩ : ∃ v, I1259 a0 8 = v := ⟨_, rfl⟩
                have b1286 := iv15_8 hS1266.1 ta0 c1285
                exact ⟨rfl, rfl, rfl, rfl, rfl, hS1266, (Or.inr (⟨(by first | done | omega), (by (try rw [c1269]); first | done | omega), (by (try rw [c1272]); first | done | omega), (by (try rw [c1274]); first | done | omega), trivial⟩)), trivial⟩
            · skip
              refine q_iconst dX12_readTurner_68 (by decide) ?_
              intro v1287 h1288
              refine tr_goto 73 dX12_readTurner_69 (by decide) ?_
              refine tr_istore_n dX12_readTurner_73 (by decide) (by decide) ?_
              refine tr_iload_n dX12_readTurner_74 rfl ?_
              refine q_iconst dX12_readTurner_75 (by decide) ?_
              intro v1289 h1290
              refine q_icmp_ne 84 dX12_readTurner_76 (by decide) (fun h1291 => ?_) (fun h1291 => ?_)
              · skip
                refine sf_tuO hE hZ hS1214.1 (gB) ta0 (by (try rw [c1220]); first | done | omega) ⟨_, d2⟩ rfl rfl rfl ?_
                rintro I1292 R1293 L1294 ⟨g1295, p1296, p1297, p1298, -⟩
                obtain rfl : R0 = R1293 := funext fun a => funext fun j => (g1295.2.2 a j (wm_no rfl)).symm
                have hS1299 := hS1214.tr g1295 (by decide +kernel) (by decide +kernel)
                have c1300 : I1292 a1 4 = v45 := (g1295.cell ta1 (by decide +kernel)).trans c1215
                obtain ⟨v1301, c1302⟩ : ∃ v, I1292 a0 9 = v := ⟨_, rfl⟩
                have b1303 := iv15_9 hS1299.1 ta0 c1302
                rw [c1302] at p1296
                obtain ⟨v1304, c1305⟩ : ∃ v, I1292 a0 13 = v := ⟨_, rfl⟩
                rw [c1305] at p1297
                rw [c1223] at p1297
                obtain ⟨v1306, c1307⟩ : ∃ v, I1292 a0 14 = v := ⟨_, rfl⟩
                rw [c1307] at p1298
                rw [c1225] at p1298
                have eF := hF.eq
                have eP := hP.eq
                obtain ⟨v1308, c1309⟩ : ∃ v, I1292 a0 10 = v := ⟨_, rfl⟩
                have b1310 := iv15_10 hS1299.1 ta0 c1309
                obtain ⟨v1311, c1312⟩ : ∃ v, I1292 a0 11 = v := ⟨_, rfl⟩
                obtain ⟨y1313, c1314⟩ : ∃ v, L1294 a0 15 = v := ⟨_, rfl⟩
                obtain ⟨v1315, c1316⟩ : ∃ v, I1292 a0 12 = v := ⟨_, rfl⟩
                obtain ⟨v1317, c1318⟩ : ∃ v, I1292 a0 8 = v := ⟨_, rfl⟩
                have b1319 := iv15_8 hS1299.1 ta0 c1318
                exact ⟨rfl, rfl, rfl, rfl, rfl, hS1299, (Or.inr (⟨(by first | done | omega), (by (try rw [c1302]); first | done | omega), (by (try rw [c1305]); first | done | omega), (by (try rw [c1307]); first | done | omega), trivial⟩)), trivial⟩
              · skip
                exfalso; omega
          · skip
            refine q_iconst dX12_readTurner_55 (by decide) ?_
            intro v1320 h1321
            refine tr_goto 73 dX12_readTurner_56 (by decide) ?_
            refine tr_istore_n dX12_readTurner_73 (by decide) (by decide) ?_
            refine tr_iload_n dX12_readTurner_74 rfl ?_
            refine q_iconst dX12_readTurner_75 (by decide) ?_
            intro v1322 h1323
            refine q_icmp_ne 84 dX12_readTurner_76 (by decide) (fun h1324 => ?_) (fun h1324 => ?_)
            · skip
              refine sf_tuO hE hZ hS1194.1 (gB) ta0 (by (try rw [c1200]); first | done | omega) ⟨_, d2⟩ rfl rfl rfl ?_
              rintro I1325 R1326 L1327 ⟨g1328, p1329, p1330, p1331, -⟩
              obtain rfl : R0 = R1326 := funext fun a => funext fun j => (g1328.2.2 a j (wm_no rfl)).symm
              have hS1332 := hS1194.tr g1328 (by decide +kernel) (by decide +kernel)
              have c1333 : I1325 a1 4 = v45 := (g1328.cell ta1 (by decide +kernel)).trans c1195
              obtain ⟨v1334, c1335⟩ : ∃ v, I1325 a0 9 = v := ⟨_, rfl⟩
              have b1336 := iv15_9 hS1332.1 ta0 c1335
              rw [c1335] at p1329
              obtain ⟨v1337, c1338⟩ : ∃ v, I1325 a0 13 = v := ⟨_, rfl⟩
              rw [c1338] at p1330
              rw [c1203] at p1330
              obtain ⟨v1339, c1340⟩ : ∃ v, I1325 a0 14 = v := ⟨_, rfl⟩
              rw [c1340] at p1331
              rw [c1205] at p1331
              have eF := hF.eq
              have eP := hP.eq
              obtain ⟨v1341, c1342⟩ : ∃ v, I1325 a0 10 = v := ⟨_, rfl⟩
              have b1343 := iv15_10 hS1332.1 ta0 c1342
              obtain ⟨v1344, c1345⟩ : ∃ v, I1325 a0 11 = v := ⟨_, rfl⟩
              obtain ⟨y1346, c1347⟩ : ∃ v, L1327 a0 15 = v := ⟨_, rfl⟩
              obtain ⟨v1348, c1349⟩ : ∃ v, I1325 a0 12 = v := ⟨_, rfl⟩
              obtain ⟨v1350, c1351⟩ : ∃ v, I1325 a0 8 = v := ⟨_, rfl⟩
              have b1352 := iv15_8 hS1332.1 ta0 c1351
              exact ⟨rfl, rfl, rfl, rfl, rfl, hS1332, (Or.inr (⟨(by first | done | omega), (by (try rw [c1335]); first | done | omega), (by (try rw [c1338]); first | done | omega), (by (try rw [c1340]); first | done | omega), trivial⟩)), trivial⟩
            · skip
              exfalso; omega
        · skip
          refine q_iconst dX12_readTurner_41 (by decide) ?_
          intro v1353 h1354
          refine tr_goto 73 dX12_readTurner_42 (by decide) ?_
          refine tr_istore_n dX12_readTurner_73 (by decide) (by decide) ?_
          refine tr_iload_n dX12_readTurner_74 rfl ?_
          refine q_iconst dX12_readTurner_75 (by decide) ?_
          intro v1355 h1356
          refine q_icmp_ne 84 dX12_readTurner_76 (by decide) (fun h1357 => ?_) (fun h1357 => ?_)
          · skip
            refine sf_tuO hE hZ hS1174.1 (gB) ta0 (by (try rw [c1180]); first | done | omega) ⟨_, d2⟩ rfl rfl rfl ?_
            rintro I1358 R1359 L1360 ⟨g1361, p1362, p1363, p1364, -⟩
            obtain rfl : R0 = R1359 := funext fun a => funext fun j => (g1361.2.2 a j (wm_no rfl)).symm
            have hS1365 := hS1174.tr g1361 (by decide +kernel) (by decide +kernel)
            have c1366 : I1358 a1 4 = v45 := (g1361.cell ta1 (by decide +kernel)).trans c1175
            obtain ⟨v1367, c1368⟩ : ∃ v, I1358 a0 9 = v := ⟨_, rfl⟩
            have b1369 := iv15_9 hS1365.1 ta0 c1368
            rw [c1368] at p1362
            obtain ⟨v1370, c1371⟩ : ∃ v, I1358 a0 13 = v := ⟨_, rfl⟩
            rw [c1371] at p1363
            rw [c1183] at p1363
            obtain ⟨v1372, c1373⟩ : ∃ v, I1358 a0 14 = v := ⟨_, rfl⟩
            rw [c1373] at p1364
            rw [c1185] at p1364
            have eF := hF.eq
            have eP := hP.eq
            obtain ⟨v1374, c1375⟩ : ∃ v, I1358 a0 10 = v := ⟨_, rfl⟩
            have b1376 := iv15_10 hS1365.1 ta0 c1375
            obtain ⟨v1377, c1378⟩ : ∃ v, I1358 a0 11 = v := ⟨_, rfl⟩
            obtain ⟨y1379, c1380⟩ : ∃ v, L1360 a0 15 = v := ⟨_, rfl⟩
            obtain ⟨v1381, c1382⟩ : ∃ v, I1358 a0 12 = v := ⟨_, rfl⟩
            obtain ⟨v1383, c1384⟩ : ∃ v, I1358 a0 8 = v := ⟨_, rfl⟩
            have b1385 := iv15_8 hS1365.1 ta0 c1384
            exact ⟨rfl, rfl, rfl, rfl, rfl, hS1365, (Or.inr (⟨(by first | done | omega), (by (try rw [c1368]); first | done | omega), (by (try rw [c1371]); first | done | omega), (by (try rw [c1373]); first | done | omega), trivial⟩)), trivial⟩
          · skip
            exfalso; omega
      · skip
        refine q_iconst dX12_readTurner_27 (by decide) ?_
        intro v1386 h1387
        refine tr_goto 73 dX12_readTurner_28 (by decide) ?_
        refine tr_istore_n dX12_readTurner_73 (by decide) (by decide) ?_
        refine tr_iload_n dX12_readTurner_74 rfl ?_
        refine q_iconst dX12_readTurner_75 (by decide) ?_
        intro v1388 h1389
        refine q_icmp_ne 84 dX12_readTurner_76 (by decide) (fun h1390 => ?_) (fun h1390 => ?_)
        · skip
          refine sf_tuO hE hZ hS1154.1 (gB) ta0 (by (try rw [c1160]); first | done | omega) ⟨_, d2⟩ rfl rfl rfl ?_
          rintro I1391 R1392 L1393 ⟨g1394, p1395, p1396, p1397, -⟩
          obtain rfl : R0 = R1392 := funext fun a => funext fun j => (g1394.2.2 a j (wm_no rfl)).symm
          have hS1398 := hS1154.tr g1394 (by decide +kernel) (by decide +kernel)
          have c1399 : I1391 a1 4 = v45 := (g1394.cell ta1 (by decide +kernel)).trans c1155
          obtain ⟨v1400, c1401⟩ : ∃ v, I1391 a0 9 = v := ⟨_, rfl⟩
          have b1402 := iv15_9 hS1398.1 ta0 c1401
          rw [c1401] at p1395
          obtain ⟨v1403, c1404⟩ : ∃ v, I1391 a0 13 = v := ⟨_, rfl⟩
          rw [c1404] at p1396
          rw [c1163] at p1396
          obtain ⟨v1405, c1406⟩ : ∃ v, I1391 a0 14 = v := ⟨_, rfl⟩
          rw [c1406] at p1397
          rw [c1165] at p1397
          have eF := hF.eq
          have eP := hP.eq
          obtain ⟨v1407, c1408⟩ : ∃ v, I1391 a0 10 = v := ⟨_, rfl⟩
          have b1409 := iv15_10 hS1398.1 ta0 c1408
          obtain ⟨v1410, c1411⟩ : ∃ v, I1391 a0 11 = v := ⟨_, rfl⟩
          obtain ⟨y1412, c1413⟩ : ∃ v, L1393 a0 15 = v := ⟨_, rfl⟩
          obtain ⟨v1414, c1415⟩ : ∃ v, I1391 a0 12 = v := ⟨_, rfl⟩
          obtain ⟨v1416, c1417⟩ : ∃ v, I1391 a0 8 = v := ⟨_, rfl⟩
          have b1418 := iv15_8 hS1398.1 ta0 c1417
          exact ⟨rfl, rfl, rfl, rfl, rfl, hS1398, (Or.inr (⟨(by first | done | omega), (by (try rw [c1401]); first | done | omega), (by (try rw [c1404]); first | done | omega), (by (try rw [c1406]); first | done | omega), trivial⟩)), trivial⟩
        · skip
          exfalso; omega
  · skip
    obtain ⟨v1419, c1420⟩ : ∃ v, I68 a0 9 = v := ⟨_, rfl⟩
    have b1421 := iv15_9 hS76.1 ta0 c1420
    rw [c1420] at p90
    obtain ⟨v1422, c1423⟩ : ∃ v, I68 a0 13 = v := ⟨_, rfl⟩
    rw [c1423] at p91
    obtain ⟨v1424, c1425⟩ : ∃ v, I68 a0 14 = v := ⟨_, rfl⟩
    rw [c1425] at p92
    have p1426 := p61
    unfold Q7M at p1426
    replace hF := hF.pos (by omega)
    replace hP := hP.pos (by omega)
    clear p1426
    refine tr_aload_n dX12_readTurner_12 rfl ?_
    refine q_callVl hE (M' := mX12_readFresh) (as := []) dX12_readTurner_13 lk12_285 inX12_readFresh seX12_readFresh myX12_readFresh (by decide) ⟨by decide, by decide⟩ rfl (kR15 hS76.1 ta0) (Nat.le_of_ble_eq_true rfl) rfl rfl (by decide) (by decide) (k_X12_readFresh hS76.1 ta0 ⟨_, d2⟩) ?_
    rintro y1431 cn' K' N' I1427 R1428 L1429 ⟨rfl, rfl, rfl, rfl, g1430, w1432, -⟩
    have hS1433 := hS76.tr g1430 (by decide +kernel) (by decide +kernel)
    have c1434 : I1427 a1 4 = v45 := (g1430.cell ta1 (by decide +kernel)).trans c77
    have ov1435 := w1432.over (by rw [c1420]; omega)
    obtain ⟨v1436, c1437⟩ : ∃ v, I1427 a0 9 = v := ⟨_, rfl⟩
    have b1438 := iv15_9 hS1433.1 ta0 c1437
    obtain ⟨v1439, c1440⟩ : ∃ v, I1427 a0 13 = v := ⟨_, rfl⟩
    obtain ⟨v1441, c1442⟩ : ∃ v, I1427 a0 14 = v := ⟨_, rfl⟩
    (try rw [c1437] at ov1435)
    (try rw [c1440] at ov1435)
    (try rw [c1442] at ov1435)
    (try rw [c1420] at ov1435)
    (try rw [c1423] at ov1435)
    (try rw [c1425] at ov1435)
    refine tr_lstore_n dX12_readTurner_16 (by decide) (by decide) (by decide) ?_
    refine tr_aload_n dX12_readTurner_17 rfl ?_
    refine tr_ldcwS dX12_readTurner_18 ld12_318 ?_
    refine q_callVi hE (M' := mX12_eatsWord) (as := [_]) dX12_readTurner_21 lk12_290 inX12_eatsWord seX12_eatsWord myX12_eatsWord (by decide) ⟨by decide, by decide⟩ rfl (kR15 hS1433.1 ta0) (Nat.le_of_ble_eq_true rfl) rfl rfl (by decide) (by decide) (k_X12_eatsWord hS1433.1 ta0 (by decide)) ?_
    rintro v1447 cn' K' N' I1443 R1444 L1445 ⟨rfl, rfl, rfl, rfl, g1446, h1448, w1449, -⟩
    have hS1450 := hS1433.tr g1446 (by decide +kernel) (by decide +kernel)
    have c1451 : I1443 a1 4 = v45 := (g1446.cell ta1 (by decide +kernel)).trans c1434
    have c1452 : I1443 a0 13 = v1439 := (g1446.cell ta0 (by decide +kernel)).trans c1440
    have c1453 : I1443 a0 14 = v1441 := (g1446.cell ta0 (by decide +kernel)).trans c1442
    have ov1454 := w1449.over (by rw [c1437]; omega)
    obtain ⟨v1455, c1456⟩ : ∃ v, I1443 a0 9 = v := ⟨_, rfl⟩
    have b1457 := iv15_9 hS1450.1 ta0 c1456
    obtain ⟨v1458, c1459⟩ : ∃ v, I1443 a0 13 = v := ⟨_, rfl⟩
    obtain ⟨v1460, c1461⟩ : ∃ v, I1443 a0 14 = v := ⟨_, rfl⟩
    (try rw [c1456] at ov1454)
    (try rw [c1459] at ov1454)
    (try rw [c1461] at ov1454)
    (try rw [c1437] at ov1454)
    (try rw [c1440] at ov1454)
    (try rw [c1442] at ov1454)
    refine q_if_eq 31 dX12_readTurner_24 (by decide) (fun h1462 => ?_) (fun h1462 => ?_)
    · skip
      refine tr_aload_n dX12_readTurner_31 rfl ?_
      refine tr_ldcwS dX12_readTurner_32 ld12_320 ?_
      refine q_callVi hE (M' := mX12_eatsWord) (as := [_]) dX12_readTurner_35 lk12_290 inX12_eatsWord seX12_eatsWord myX12_eatsWord (by decide) ⟨by decide, by decide⟩ rfl (kR15 hS1450.1 ta0) (Nat.le_of_ble_eq_true rfl) rfl rfl (by decide) (by decide) (k_X12_eatsWord hS1450.1 ta0 (by decide)) ?_
      rintro v1467 cn' K' N' I1463 R1464 L1465 ⟨rfl, rfl, rfl, rfl, g1466, h1468, w1469, -⟩
      have hS1470 := hS1450.tr g1466 (by decide +kernel) (by decide +kernel)
      have c1471 : I1463 a1 4 = v45 := (g1466.cell ta1 (by decide +kernel)).trans c1451
      have c1472 : I1463 a0 13 = v1458 := (g1466.cell ta0 (by decide +kernel)).trans c1459
      have c1473 : I1463 a0 14 = v1460 := (g1466.cell ta0 (by decide +kernel)).trans c1461
      have ov1474 := w1469.over (by rw [c1456]; omega)
      obtain ⟨v1475, c1476⟩ : ∃ v, I1463 a0 9 = v := ⟨_, rfl⟩
      have b1477 := iv15_9 hS1470.1 ta0 c1476
      obtain ⟨v1478, c1479⟩ : ∃ v, I1463 a0 13 = v := ⟨_, rfl⟩
      obtain ⟨v1480, c1481⟩ : ∃ v, I1463 a0 14 = v := ⟨_, rfl⟩
      (try rw [c1476] at ov1474)
      (try rw [c1479] at ov1474)
      (try rw [c1481] at ov1474)
      (try rw [c1456] at ov1474)
      (try rw [c1459] at ov1474)
      (try rw [c1461] at ov1474)
      refine q_if_eq 45 dX12_readTurner_38 (by decide) (fun h1482 => ?_) (fun h1482 => ?_)
      · skip
        refine tr_aload_n dX12_readTurner_45 rfl ?_
        refine tr_ldcwS dX12_readTurner_46 ld12_322 ?_
        refine q_callVi hE (M' := mX12_eatsWord) (as := [_]) dX12_readTurner_49 lk12_290 inX12_eatsWord seX12_eatsWord myX12_eatsWord (by decide) ⟨by decide, by decide⟩ rfl (kR15 hS1470.1 ta0) (Nat.le_of_ble_eq_true rfl) rfl rfl (by decide) (by decide) (k_X12_eatsWord hS1470.1 ta0 (by decide)) ?_
        rintro v1487 cn' K' N' I1483 R1484 L1485 ⟨rfl, rfl, rfl, rfl, g1486, h1488, w1489, -⟩
        have hS1490 := hS1470.tr g1486 (by decide +kernel) (by decide +kernel)
        have c1491 : I1483 a1 4 = v45 := (g1486.cell ta1 (by decide +kernel)).trans c1471
        have c1492 : I1483 a0 13 = v1478 := (g1486.cell ta0 (by decide +kernel)).trans c1479
        have c1493 : I1483 a0 14 = v1480 := (g1486.cell ta0 (by decide +kernel)).trans c1481
        have ov1494 := w1489.over (by rw [c1476]; omega)
        obtain ⟨v1495, c1496⟩ : ∃ v, I1483 a0 9 = v := ⟨_, rfl⟩
        have b1497 := iv15_9 hS1490.1 ta0 c1496
        obtain ⟨v1498, c1499⟩ : ∃ v, I1483 a0 13 = v := ⟨_, rfl⟩
        obtain ⟨v1500, c1501⟩ : ∃ v, I1483 a0 14 = v := ⟨_, rfl⟩
        (try rw [c1496] at ov1494)
        (try rw [c1499] at ov1494)
        (try rw [c1501] at ov1494)
        (try rw [c1476] at ov1494)
        (try rw [c1479] at ov1494)
        (try rw [c1481] at ov1494)
        refine q_if_eq 59 dX12_readTurner_52 (by decide) (fun h1502 => ?_) (fun h1502 => ?_)
        · skip
          refine tr_aload_n dX12_readTurner_59 rfl ?_
          refine tr_ldcS dX12_readTurner_60 ld12_178 ?_
          refine q_callVi hE (M' := mX12_eatsWord) (as := [_]) dX12_readTurner_62 lk12_290 inX12_eatsWord seX12_eatsWord myX12_eatsWord (by decide) ⟨by decide, by decide⟩ rfl (kR15 hS1490.1 ta0) (Nat.le_of_ble_eq_true rfl) rfl rfl (by decide) (by decide) (k_X12_eatsWord hS1490.1 ta0 (by decide)) ?_
          rintro v1507 cn' K' N' I1503 R1504 L1505 ⟨rfl, rfl, rfl, rfl, g1506, h1508, w1509, -⟩
          have hS1510 := hS1490.tr g1506 (by decide +kernel) (by decide +kernel)
          have c1511 : I1503 a1 4 = v45 := (g1506.cell ta1 (by decide +kernel)).trans c1491
          have c1512 : I1503 a0 13 = v1498 := (g1506.cell ta0 (by decide +kernel)).trans c1499
          have c1513 : I1503 a0 14 = v1500 := (g1506.cell ta0 (by decide +kernel)).trans c1501
          have ov1514 := w1509.over (by rw [c1496]; omega)
          obtain ⟨v1515, c1516⟩ : ∃ v, I1503 a0 9 = v := ⟨_, rfl⟩
          have b1517 := iv15_9 hS1510.1 ta0 c1516
          obtain ⟨v1518, c1519⟩ : ∃ v, I1503 a0 13 = v := ⟨_, rfl⟩
          obtain ⟨v1520, c1521⟩ : ∃ v, I1503 a0 14 = v := ⟨_, rfl⟩
          (try rw [c1516] at ov1514)
          (try rw [c1519] at ov1514)
          (try rw [c1521] at ov1514)
          (try rw [c1496] at ov1514)
          (try rw [c1499] at ov1514)
          (try rw [c1501] at ov1514)
          refine q_if_eq 72 dX12_readTurner_65 (by decide) (fun h1522 => ?_) (fun h1522 => ?_)
          · skip
            refine q_iconst dX12_readTurner_72 (by decide) ?_
            intro v1523 h1524
            refine tr_istore_n dX12_readTurner_73 (by decide) (by decide) ?_
            refine tr_iload_n dX12_readTurner_74 rfl ?_
            refine q_iconst dX12_readTurner_75 (by decide) ?_
            intro v1525 h1526
            refine q_icmp_ne 84 dX12_readTurner_76 (by decide) (fun h1527 => ?_) (fun h1527 => ?_)
            · skip
              exfalso; omega
            · skip
              refine tr_aload_n dX12_readTurner_79 rfl ?_
              refine q_iconst dX12_readTurner_80 (by decide) ?_
              intro v1528 h1529
              obtain ⟨v1530, c1531⟩ : ∃ v, I1503 a0 8 = v := ⟨_, rfl⟩
              have b1532 := iv15_8 hS1510.1 ta0 c1531
              refine q_callVv hE (M' := mX12_flaw) (as := [_]) dX12_readTurner_81 lk12_145 inX12_flaw seX12_flaw myX12_flaw (by decide) ⟨by decide, by decide⟩ rfl (kR15 hS1510.1 ta0) (Nat.le_of_ble_eq_true rfl) rfl rfl (by decide) (by decide) (k_X12_flaw hS1510.1 ta0 (by omega)) ?_
              rintro cn' K' N' I1533 R1534 L1535 ⟨rfl, rfl, rfl, rfl, rfl, g1536, p1538, p1539, w1540, -⟩
              have hS1541 := hS1510.tr g1536 (by decide +kernel) (by decide +kernel)
              have c1542 : I1533 a1 4 = v45 := (g1536.cell ta1 (by decide +kernel)).trans c1511
              have c1543 : I1533 a0 8 = v1530 := (g1536.cell ta0 (by decide +kernel)).trans c1531
              obtain ⟨v1544, c1545⟩ : ∃ v, I1533 a0 9 = v := ⟨_, rfl⟩
              have b1546 := iv15_9 hS1541.1 ta0 c1545
              rw [c1545] at p1538
              rw [c1543] at p1539
              rw [c1531] at p1539
              have ov1547 := w1540.over (by rw [c1516]; omega)
              obtain ⟨v1548, c1549⟩ : ∃ v, I1533 a0 9 = v := ⟨_, rfl⟩
              have b1550 := iv15_9 hS1541.1 ta0 c1549
              obtain ⟨v1551, c1552⟩ : ∃ v, I1533 a0 13 = v := ⟨_, rfl⟩
              obtain ⟨v1553, c1554⟩ : ∃ v, I1533 a0 14 = v := ⟨_, rfl⟩
              (try rw [c1549] at ov1547)
              (try rw [c1552] at ov1547)
              (try rw [c1554] at ov1547)
              (try rw [c1516] at ov1547)
              (try rw [c1519] at ov1547)
              (try rw [c1521] at ov1547)
              refine sf_tuO hE hZ hS1541.1 (gB) ta0 (by (try rw [c1549]); first | done | omega) ⟨_, d2⟩ rfl rfl rfl ?_
              rintro I1555 R1556 L1557 ⟨g1558, p1559, p1560, p1561, -⟩
              obtain rfl : R0 = R1556 := funext fun a => funext fun j => (g1558.2.2 a j (wm_no rfl)).symm
              have hS1562 := hS1541.tr g1558 (by decide +kernel) (by decide +kernel)
              have c1563 : I1555 a1 4 = v45 := (g1558.cell ta1 (by decide +kernel)).trans c1542
              obtain ⟨v1564, c1565⟩ : ∃ v, I1555 a0 9 = v := ⟨_, rfl⟩
              have b1566 := iv15_9 hS1562.1 ta0 c1565
              rw [c1565] at p1559
              obtain ⟨v1567, c1568⟩ : ∃ v, I1555 a0 13 = v := ⟨_, rfl⟩
              rw [c1568] at p1560
              rw [c1552] at p1560
              obtain ⟨v1569, c1570⟩ : ∃ v, I1555 a0 14 = v := ⟨_, rfl⟩
              rw [c1570] at p1561
              rw [c1554] at p1561
              have eF := hF.eq
              have eP := hP.eq
              obtain ⟨v1571, c1572⟩ : ∃ v, I1555 a0 10 = v := ⟨_, rfl⟩
              have b1573 := iv15_10 hS1562.1 ta0 c1572
              obtain ⟨v1574, c1575⟩ : ∃ v, I1555 a0 11 = v := ⟨_, rfl⟩
              obtain ⟨y1576, c1577⟩ : ∃ v, L1557 a0 15 = v := ⟨_, rfl⟩
              obtain ⟨v1578, c1579⟩ : ∃ v, I1555 a0 12 = v := ⟨_, rfl⟩
              obtain ⟨v1580, c1581⟩ : ∃ v, I1555 a0 8 = v := ⟨_, rfl⟩
              have b1582 := iv15_8 hS1562.1 ta0 c1581
              exact ⟨rfl, rfl, rfl, rfl, rfl, hS1562, (Or.inr (⟨(by first | done | omega), (by (try rw [c1565]); first | done | omega), (by (try rw [c1568]); first | done | omega), (by (try rw [c1570]); first | done | omega), trivial⟩)), trivial⟩
          · skip
            refine q_iconst dX12_readTurner_68 (by decide) ?_
            intro v1583 h1584
            refine tr_goto 73 dX12_readTurner_69 (by decide) ?_
            refine tr_istore_n dX12_readTurner_73 (by decide) (by decide) ?_
            refine tr_iload_n dX12_readTurner_74 rfl ?_
            refine q_iconst dX12_readTurner_75 (by decide) ?_
            intro v1585 h1586
            refine q_icmp_ne 84 dX12_readTurner_76 (by decide) (fun h1587 => ?_) (fun h1587 => ?_)
            · skip
              refine sf_tuO hE hZ hS1510.1 (gB) ta0 (by (try rw [c1516]); first | done | omega) ⟨_, d2⟩ rfl rfl rfl ?_
              rintro I1588 R1589 L1590 ⟨g1591, p1592, p1593, p1594, -⟩
              obtain rfl : R0 = R1589 := funext fun a => funext fun j => (g1591.2.2 a j (wm_no rfl)).symm
              have hS1595 := hS1510.tr g1591 (by decide +kernel) (by decide +kernel)
              have c1596 : I1588 a1 4 = v45 := (g1591.cell ta1 (by decide +kernel)).trans c1511
              obtain ⟨v1597, c1598⟩ : ∃ v, I1588 a0 9 = v := ⟨_, rfl⟩
              have b1599 := iv15_9 hS1595.1 ta0 c1598
              rw [c1598] at p1592
              obtain ⟨v1600, c1601⟩ : ∃ v, I1588 a0 13 = v := ⟨_, rfl⟩
              rw [c1601] at p1593
              rw [c1519] at p1593
              obtain ⟨v1602, c1603⟩ : ∃ v, I1588 a0 14 = v := ⟨_, rfl⟩
              rw [c1603] at p1594
              rw [c1521] at p1594
              have eF := hF.eq
              have eP := hP.eq
              obtain ⟨v1604, c1605⟩ : ∃ v, I1588 a0 10 = v := ⟨_, rfl⟩
              have b1606 := iv15_10 hS1595.1 ta0 c1605
              obtain ⟨v1607, c1608⟩ : ∃ v, I1588 a0 11 = v := ⟨_, rfl⟩
              obtain ⟨y1609, c1610⟩ : ∃ v, L1590 a0 15 = v := ⟨_, rfl⟩
              obtain ⟨v1611, c1612⟩ : ∃ v, I1588 a0 12 = v := ⟨_, rfl⟩
              obtain ⟨v1613, c1614⟩ : ∃ v, I1588 a0 8 = v := ⟨_, rfl⟩
              have b1615 := iv15_8 hS1595.1 ta0 c1614
              exact ⟨rfl, rfl, rfl, rfl, rfl, hS1595, (Or.inr (⟨(by first | done | omega), (by (try rw [c1598]); first | done | omega), (by (try rw [c1601]); first | done | omega), (by (try rw [c1603]); first | done | omega), trivial⟩)), trivial⟩
            · skip
              exfalso; omega
        · skip
          refine q_iconst dX12_readTurner_55 (by decide) ?_
          intro v1616 h1617
          refine tr_goto 73 dX12_readTurner_56 (by decide) ?_
          refine tr_istore_n dX12_readTurner_73 (by decide) (by decide) ?_
          refine tr_iload_n dX12_readTurner_74 rfl ?_
          refine q_iconst dX12_readTurner_75 (by decide) ?_
          intro v1618 h1619
          refine q_icmp_ne 84 dX12_readTurner_76 (by decide) (fun h1620 => ?_) (fun h1620 => ?_)
          · skip
            refine sf_tuO hE hZ hS1490.1 (gB) ta0 (by (try rw [c1496]); first | done | omega) ⟨_, d2⟩ rfl rfl rfl ?_
            rintro I1621 R1622 L1623 ⟨g1624, p1625, p1626, p1627, -⟩
            obtain rfl : R0 = R1622 := funext fun a => funext fun j => (g1624.2.2 a j (wm_no rfl)).symm
            have hS1628 := hS1490.tr g1624 (by decide +kernel) (by decide +kernel)
            have c1629 : I1621 a1 4 = v45 := (g1624.cell ta1 (by decide +kernel)).trans c1491
            obtain ⟨v1630, c1631⟩ : ∃ v, I1621 a0 9 = v := ⟨_, rfl⟩
            have b1632 := iv15_9 hS1628.1 ta0 c1631
            rw [c1631] at p1625
            obtain ⟨v1633, c1634⟩ : ∃ v, I1621 a0 13 = v := ⟨_, rfl⟩
            rw [c1634] at p1626
            rw [c1499] at p1626
            obtain ⟨v1635, c1636⟩ : ∃ v, I1621 a0 14 = v := ⟨_, rfl⟩
            rw [c1636] at p1627
            rw [c1501] at p1627
            have eF := hF.eq
            have eP := hP.eq
            obtain ⟨v1637, c1638⟩ : ∃ v, I1621 a0 10 = v := ⟨_, rfl⟩
            have b1639 := iv15_10 hS1628.1 ta0 c1638
            obtain ⟨v1640, c1641⟩ : ∃ v, I1621 a0 11 = v := ⟨_, rfl⟩
            obtain ⟨y1642, c1643⟩ : ∃ v, L1623 a0 15 = v := ⟨_, rfl⟩
            obtain ⟨v1644, c1645⟩ : ∃ v, I1621 a0 12 = v := ⟨_, rfl⟩
            obtain ⟨v1646, c1647⟩ : ∃ v, I1621 a0 8 = v := ⟨_, rfl⟩
            have b1648 := iv15_8 hS1628.1 ta0 c1647
            exact ⟨rfl, rfl, rfl, rfl, rfl, hS1628, (Or.inr (⟨(by first | done | omega), (by (try rw [c1631]); first | done | omega), (by (try rw [c1634]); first | done | omega), (by (try rw [c1636]); first | done | omega), trivial⟩)), trivial⟩
          · skip
            exfalso; omega
      · skip
        refine q_iconst dX12_readTurner_41 (by decide) ?_
        intro v1649 h1650
        refine tr_goto 73 dX12_readTurner_42 (by decide) ?_
        refine tr_istore_n dX12_readTurner_73 (by decide) (by decide) ?_
        refine tr_iload_n dX12_readTurner_74 rfl ?_
        refine q_iconst dX12_readTurner_75 (by decide) ?_
        intro v1651 h1652
        refine q_icmp_ne 84 dX12_readTurner_76 (by decide) (fun h1653 => ?_) (fun h1653 => ?_)
        · skip
          refine sf_tuO hE hZ hS1470.1 (gB) ta0 (by (try rw [c1476]); first | done | omega) ⟨_, d2⟩ rfl rfl rfl ?_
          rintro I1654 R1655 L1656 ⟨g1657, p1658, p1659, p1660, -⟩
          obtain rfl : R0 = R1655 := funext fun a => funext fun j => (g1657.2.2 a j (wm_no rfl)).symm
          have hS1661 := hS1470.tr g1657 (by decide +kernel) (by decide +kernel)
          have c1662 : I1654 a1 4 = v45 := (g1657.cell ta1 (by decide +kernel)).trans c1471
          obtain ⟨v1663, c1664⟩ : ∃ v, I1654 a0 9 = v := ⟨_, rfl⟩
          have b1665 := iv15_9 hS1661.1 ta0 c1664
          rw [c1664] at p1658
          obtain ⟨v1666, c1667⟩ : ∃ v, I1654 a0 13 = v := ⟨_, rfl⟩
          rw [c1667] at p1659
          rw [c1479] at p1659
          obtain ⟨v1668, c1669⟩ : ∃ v, I1654 a0 14 = v := ⟨_, rfl⟩
          rw [c1669] at p1660
          rw [c1481] at p1660
          have eF := hF.eq
          have eP := hP.eq
          obtain ⟨v1670, c1671⟩ : ∃ v, I1654 a0 10 = v := ⟨_, rfl⟩
          have b1672 := iv15_10 hS1661.1 ta0 c1671
          obtain ⟨v1673, c1674⟩ : ∃ v, I1654 a0 11 = v := ⟨_, rfl⟩
          obtain ⟨y1675, c1676⟩ : ∃ v, L1656 a0 15 = v := ⟨_, rfl⟩
          obtain ⟨v1677, c1678⟩ : ∃ v, I1654 a0 12 = v := ⟨_, rfl⟩
          obtain ⟨v1679, c1680⟩ : ∃ v, I1654 a0 8 = v := ⟨_, rfl⟩
          have b1681 := iv15_8 hS1661.1 ta0 c1680
          exact ⟨rfl, rfl, rfl, rfl, rfl, hS1661, (Or.inr (⟨(by first | done | omega), (by (try rw [c1664]); first | done | omega), (by (try rw [c1667]); first | done | omega), (by (try rw [c1669]); first | done | omega), trivial⟩)), trivial⟩
        · skip
          exfalso; omega
    · skip
      refine q_iconst dX12_readTurner_27 (by decide) ?_
      intro v1682 h1683
      refine tr_goto 73 dX12_readTurner_28 (by decide) ?_
      refine tr_istore_n dX12_readTurner_73 (by decide) (by decide) ?_
      refine tr_iload_n dX12_readTurner_74 rfl ?_
      refine q_iconst dX12_readTurner_75 (by decide) ?_
      intro v1684 h1685
      refine q_icmp_ne 84 dX12_readTurner_76 (by decide) (fun h1686 => ?_) (fun h1686 => ?_)
      · skip
        refine sf_tuO hE hZ hS1450.1 (gB) ta0 (by (try rw [c1456]); first | done | omega) ⟨_, d2⟩ rfl rfl rfl ?_
        rintro I1687 R1688 L1689 ⟨g1690, p1691, p1692, p1693, -⟩
        obtain rfl : R0 = R1688 := funext fun a => funext fun j => (g1690.2.2 a j (wm_no rfl)).symm
        have hS1694 := hS1450.tr g1690 (by decide +kernel) (by decide +kernel)
        have c1695 : I1687 a1 4 = v45 := (g1690.cell ta1 (by decide +kernel)).trans c1451
        obtain ⟨v1696, c1697⟩ : ∃ v, I1687 a0 9 = v := ⟨_, rfl⟩
        have b1698 := iv15_9 hS1694.1 ta0 c1697
        rw [c1697] at p1691
        obtain ⟨v1699, c1700⟩ : ∃ v, I1687 a0 13 = v := ⟨_, rfl⟩
        rw [c1700] at p1692
        rw [c1459] at p1692
        obtain ⟨v1701, c1702⟩ : ∃ v, I1687 a0 14 = v := ⟨_, rfl⟩
        rw [c1702] at p1693
        rw [c1461] at p1693
        have eF := hF.eq
        have eP := hP.eq
        obtain ⟨v1703, c1704⟩ : ∃ v, I1687 a0 10 = v := ⟨_, rfl⟩
        have b1705 := iv15_10 hS1694.1 ta0 c1704
        obtain ⟨v1706, c1707⟩ : ∃ v, I1687 a0 11 = v := ⟨_, rfl⟩
        obtain ⟨y1708, c1709⟩ : ∃ v, L1689 a0 15 = v := ⟨_, rfl⟩
        obtain ⟨v1710, c1711⟩ : ∃ v, I1687 a0 12 = v := ⟨_, rfl⟩
        obtain ⟨v1712, c1713⟩ : ∃ v, I1687 a0 8 = v := ⟨_, rfl⟩
        have b1714 := iv15_8 hS1694.1 ta0 c1713
        exact ⟨rfl, rfl, rfl, rfl, rfl, hS1694, (Or.inr (⟨(by first | done | omega), (by (try rw [c1697]); first | done | omega), (by (try rw [c1700]); first | done | omega), (by (try rw [c1702]); first | done | omega), trivial⟩)), trivial⟩
      · skip
        exfalso; omega
  · skip
    obtain ⟨v1715, c1716⟩ : ∃ v, I68 a0 9 = v := ⟨_, rfl⟩
    have b1717 := iv15_9 hS76.1 ta0 c1716
    rw [c1716] at p95
    obtain ⟨v1718, c1719⟩ : ∃ v, I68 a0 13 = v := ⟨_, rfl⟩
    rw [c1719] at p96
    obtain ⟨v1720, c1721⟩ : ∃ v, I68 a0 14 = v := ⟨_, rfl⟩
    rw [c1721] at p97
    have p1722 := p61
    unfold Q7M at p1722
    replace hF := hF.neg (by omega)
    replace hP := hP.neg (by omega)
    replace hF := hF.pos (by omega)
    replace hP := hP.pos (by omega)
    clear p1722
    refine tr_aload_n dX12_readTurner_12 rfl ?_
    refine q_callVl hE (M' := mX12_readFresh) (as := []) dX12_readTurner_13 lk12_285 inX12_readFresh seX12_readFresh myX12_readFresh (by decide) ⟨by decide, by decide⟩ rfl (kR15 hS76.1 ta0) (Nat.le_of_ble_eq_true rfl) rfl rfl (by decide) (by decide) (k_X12_readFresh hS76.1 ta0 ⟨_, d2⟩) ?_
    rintro y1727 cn' K' N' I1723 R1724 L1725 ⟨rfl, rfl, rfl, rfl, g1726, w1728, -⟩
    have hS1729 := hS76.tr g1726 (by decide +kernel) (by decide +kernel)
    have c1730 : I1723 a1 4 = v45 := (g1726.cell ta1 (by decide +kernel)).trans c77
    have ov1731 := w1728.over (by rw [c1716]; omega)
    obtain ⟨v1732, c1733⟩ : ∃ v, I1723 a0 9 = v := ⟨_, rfl⟩
    have b1734 := iv15_9 hS1729.1 ta0 c1733
    obtain ⟨v1735, c1736⟩ : ∃ v, I1723 a0 13 = v := ⟨_, rfl⟩
    obtain ⟨v1737, c1738⟩ : ∃ v, I1723 a0 14 = v := ⟨_, rfl⟩
    (try rw [c1733] at ov1731)
    (try rw [c1736] at ov1731)
    (try rw [c1738] at ov1731)
    (try rw [c1716] at ov1731)
    (try rw [c1719] at ov1731)
    (try rw [c1721] at ov1731)
    refine tr_lstore_n dX12_readTurner_16 (by decide) (by decide) (by decide) ?_
    refine tr_aload_n dX12_readTurner_17 rfl ?_
    refine tr_ldcwS dX12_readTurner_18 ld12_318 ?_
    refine q_callVi hE (M' := mX12_eatsWord) (as := [_]) dX12_readTurner_21 lk12_290 inX12_eatsWord seX12_eatsWord myX12_eatsWord (by decide) ⟨by decide, by decide⟩ rfl (kR15 hS1729.1 ta0) (Nat.le_of_ble_eq_true rfl) rfl rfl (by decide) (by decide) (k_X12_eatsWord hS1729.1 ta0 (by decide)) ?_
    rintro v1743 cn' K' N' I1739 R1740 L1741 ⟨rfl, rfl, rfl, rfl, g1742, h1744, w1745, -⟩
    have hS1746 := hS1729.tr g1742 (by decide +kernel) (by decide +kernel)
    have c1747 : I1739 a1 4 = v45 := (g1742.cell ta1 (by decide +kernel)).trans c1730
    have c1748 : I1739 a0 13 = v1735 := (g1742.cell ta0 (by decide +kernel)).trans c1736
    have c1749 : I1739 a0 14 = v1737 := (g1742.cell ta0 (by decide +kernel)).trans c1738
    have ov1750 := w1745.over (by rw [c1733]; omega)
    obtain ⟨v1751, c1752⟩ : ∃ v, I1739 a0 9 = v := ⟨_, rfl⟩
    have b1753 := iv15_9 hS1746.1 ta0 c1752
    obtain ⟨v1754, c1755⟩ : ∃ v, I1739 a0 13 = v := ⟨_, rfl⟩
    obtain ⟨v1756, c1757⟩ : ∃ v, I1739 a0 14 = v := ⟨_, rfl⟩
    (try rw [c1752] at ov1750)
    (try rw [c1755] at ov1750)
    (try rw [c1757] at ov1750)
    (try rw [c1733] at ov1750)
    (try rw [c1736] at ov1750)
    (try rw [c1738] at ov1750)
    refine q_if_eq 31 dX12_readTurner_24 (by decide) (fun h1758 => ?_) (fun h1758 => ?_)
    · skip
      refine tr_aload_n dX12_readTurner_31 rfl ?_
      refine tr_ldcwS dX12_readTurner_32 ld12_320 ?_
      refine q_callVi hE (M' := mX12_eatsWord) (as := [_]) dX12_readTurner_35 lk12_290 inX12_eatsWord seX12_eatsWord myX12_eatsWord (by decide) ⟨by decide, by decide⟩ rfl (kR15 hS1746.1 ta0) (Nat.le_of_ble_eq_true rfl) rfl rfl (by decide) (by decide) (k_X12_eatsWord hS1746.1 ta0 (by decide)) ?_
      rintro v1763 cn' K' N' I1759 R1760 L1761 ⟨rfl, rfl, rfl, rfl, g1762, h1764, w1765, -⟩
      have hS1766 := hS1746.tr g1762 (by decide +kernel) (by decide +kernel)
      have c1767 : I1759 a1 4 = v45 := (g1762.cell ta1 (by decide +kernel)).trans c1747
      have c1768 : I1759 a0 13 = v1754 := (g1762.cell ta0 (by decide +kernel)).trans c1755
      have c1769 : I1759 a0 14 = v1756 := (g1762.cell ta0 (by decide +kernel)).trans c1757
      have ov1770 := w1765.over (by rw [c1752]; omega)
      obtain ⟨v1771, c1772⟩ : ∃ v, I1759 a0 9 = v := ⟨_, rfl⟩
      have b1773 := iv15_9 hS1766.1 ta0 c1772
      obtain ⟨v1774, c1775⟩ : ∃ v, I1759 a0 13 = v := ⟨_, rfl⟩
      obtain ⟨v1776, c1777⟩ : ∃ v, I1759 a0 14 = v := ⟨_, rfl⟩
      (try rw [c1772] at ov1770)
      (try rw [c1775] at ov1770)
      (try rw [c1777] at ov1770)
      (try rw [c1752] at ov1770)
      (try rw [c1755] at ov1770)
      (try rw [c1757] at ov1770)
      refine q_if_eq 45 dX12_readTurner_38 (by decide) (fun h1778 => ?_) (fun h1778 => ?_)
      · skip
        refine tr_aload_n dX12_readTurner_45 rfl ?_
        refine tr_ldcwS dX12_readTurner_46 ld12_322 ?_
        refine q_callVi hE (M' := mX12_eatsWord) (as := [_]) dX12_readTurner_49 lk12_290 inX12_eatsWord seX12_eatsWord myX12_eatsWord (by decide) ⟨by decide, by decide⟩ rfl (kR15 hS1766.1 ta0) (Nat.le_of_ble_eq_true rfl) rfl rfl (by decide) (by decide) (k_X12_eatsWord hS1766.1 ta0 (by decide)) ?_
        rintro v1783 cn' K' N' I1779 R1780 L1781 ⟨rfl, rfl, rfl, rfl, g1782, h1784, w1785, -⟩
        have hS1786 := hS1766.tr g1782 (by decide +kernel) (by decide +kernel)
        have c1787 : I1779 a1 4 = v45 := (g1782.cell ta1 (by decide +kernel)).trans c1767
        have c1788 : I1779 a0 13 = v1774 := (g1782.cell ta0 (by decide +kernel)).trans c1775
        have c1789 : I1779 a0 14 = v1776 := (g1782.cell ta0 (by decide +kernel)).trans c1777
        have ov1790 := w1785.over (by rw [c1772]; omega)
        obtain ⟨v1791, c1792⟩ : ∃ v, I1779 a0 9 = v := ⟨_, rfl⟩
        have b1793 := iv15_9 hS1786.1 ta0 c1792
        obtain ⟨v1794, c1795⟩ : ∃ v, I1779 a0 13 = v := ⟨_, rfl⟩
        obtain ⟨v1796, c1797⟩ : ∃ v, I1779 a0 14 = v := ⟨_, rfl⟩
        (try rw [c1792] at ov1790)
        (try rw [c1795] at ov1790)
        (try rw [c1797] at ov1790)
        (try rw [c1772] at ov1790)
        (try rw [c1775] at ov1790)
        (try rw [c1777] at ov1790)
        refine q_if_eq 59 dX12_readTurner_52 (by decide) (fun h1798 => ?_) (fun h1798 => ?_)
        · skip
          refine tr_aload_n dX12_readTurner_59 rfl ?_
          refine tr_ldcS dX12_readTurner_60 ld12_178 ?_
          refine q_callVi hE (M' := mX12_eatsWord) (as := [_]) dX12_readTurner_62 lk12_290 inX12_eatsWord seX12_eatsWord myX12_eatsWord (by decide) ⟨by decide, by decide⟩ rfl (kR15 hS1786.1 ta0) (Nat.le_of_ble_eq_true rfl) rfl rfl (by decide) (by decide) (k_X12_eatsWord hS1786.1 ta0 (by decide)) ?_
          rintro v1803 cn' K' N' I1799 R1800 L1801 ⟨rfl, rfl, rfl, rfl, g1802, h1804, w1805, -⟩
          have hS1806 := hS1786.tr g1802 (by decide +kernel) (by decide +kernel)
          have c1807 : I1799 a1 4 = v45 := (g1802.cell ta1 (by decide +kernel)).trans c1787
          have c1808 : I1799 a0 13 = v1794 := (g1802.cell ta0 (by decide +kernel)).trans c1795
          have c1809 : I1799 a0 14 = v1796 := (g1802.cell ta0 (by decide +kernel)).trans c1797
          have ov1810 := w1805.over (by rw [c1792]; omega)
          obtain ⟨v1811, c1812⟩ : ∃ v, I1799 a0 9 = v := ⟨_, rfl⟩
          have b1813 := iv15_9 hS1806.1 ta0 c1812
          obtain ⟨v1814, c1815⟩ : ∃ v, I1799 a0 13 = v := ⟨_, rfl⟩
          obtain ⟨v1816, c1817⟩ : ∃ v, I1799 a0 14 = v := ⟨_, rfl⟩
          (try rw [c1812] at ov1810)
          (try rw [c1815] at ov1810)
          (try rw [c1817] at ov1810)
          (try rw [c1792] at ov1810)
          (try rw [c1795] at ov1810)
          (try rw [c1797] at ov1810)
          refine q_if_eq 72 dX12_readTurner_65 (by decide) (fun h1818 => ?_) (fun h1818 => ?_)
          · skip
            refine q_iconst dX12_readTurner_72 (by decide) ?_
            intro v1819 h1820
            refine tr_istore_n dX12_readTurner_73 (by decide) (by decide) ?_
            refine tr_iload_n dX12_readTurner_74 rfl ?_
            refine q_iconst dX12_readTurner_75 (by decide) ?_
            intro v1821 h1822
            refine q_icmp_ne 84 dX12_readTurner_76 (by decide) (fun h1823 => ?_) (fun h1823 => ?_)
            · skip
              exfalso; omega
            · skip
              refine tr_aload_n dX12_readTurner_79 rfl ?_
              refine q_iconst dX12_readTurner_80 (by decide) ?_
              intro v1824 h1825
              obtain ⟨v1826, c1827⟩ : ∃ v, I1799 a0 8 = v := ⟨_, rfl⟩
              have b1828 := iv15_8 hS1806.1 ta0 c1827
              refine q_callVv hE (M' := mX12_flaw) (as := [_]) dX12_readTurner_81 lk12_145 inX12_flaw seX12_flaw myX12_flaw (by decide) ⟨by decide, by decide⟩ rfl (kR15 hS1806.1 ta0) (Nat.le_of_ble_eq_true rfl) rfl rfl (by decide) (by decide) (k_X12_flaw hS1806.1 ta0 (by omega)) ?_
              rintro cn' K' N' I1829 R1830 L1831 ⟨rfl, rfl, rfl, rfl, rfl, g1832, p1834, p1835, w1836, -⟩
              have hS1837 := hS1806.tr g1832 (by decide +kernel) (by decide +kernel)
              have c1838 : I1829 a1 4 = v45 := (g1832.cell ta1 (by decide +kernel)).trans c1807
              have c1839 : I1829 a0 8 = v1826 := (g1832.cell ta0 (by decide +kernel)).trans c1827
              obtain ⟨v1840, c1841⟩ : ∃ v, I1829 a0 9 = v := ⟨_, rfl⟩
              have b1842 := iv15_9 hS1837.1 ta0 c1841
              rw [c1841] at p1834
              rw [c1839] at p1835
              rw [c1827] at p1835
              have ov1843 := w1836.over (by rw [c1812]; omega)
              obtain ⟨v1844, c1845⟩ : ∃ v, I1829 a0 9 = v := ⟨_, rfl⟩
              have b1846 := iv15_9 hS1837.1 ta0 c1845
              obtain ⟨v1847, c1848⟩ : ∃ v, I1829 a0 13 = v := ⟨_, rfl⟩
              obtain ⟨v1849, c1850⟩ : ∃ v, I1829 a0 14 = v := ⟨_, rfl⟩
              (try rw [c1845] at ov1843)
              (try rw [c1848] at ov1843)
              (try rw [c1850] at ov1843)
              (try rw [c1812] at ov1843)
              (try rw [c1815] at ov1843)
              (try rw [c1817] at ov1843)
              refine sf_tuO hE hZ hS1837.1 (gB) ta0 (by (try rw [c1845]); first | done | omega) ⟨_, d2⟩ rfl rfl rfl ?_
              rintro I1851 R1852 L1853 ⟨g1854, p1855, p1856, p1857, -⟩
              obtain rfl : R0 = R1852 := funext fun a => funext fun j => (g1854.2.2 a j (wm_no rfl)).symm
              have hS1858 := hS1837.tr g1854 (by decide +kernel) (by decide +kernel)
              have c1859 : I1851 a1 4 = v45 := (g1854.cell ta1 (by decide +kernel)).trans c1838
              obtain ⟨v1860, c1861⟩ : ∃ v, I1851 a0 9 = v := ⟨_, rfl⟩
              have b1862 := iv15_9 hS1858.1 ta0 c1861
              rw [c1861] at p1855
              obtain ⟨v1863, c1864⟩ : ∃ v, I1851 a0 13 = v := ⟨_, rfl⟩
              rw [c1864] at p1856
              rw [c1848] at p1856
              obtain ⟨v1865, c1866⟩ : ∃ v, I1851 a0 14 = v := ⟨_, rfl⟩
              rw [c1866] at p1857
              rw [c1850] at p1857
              have eF := hF.eq
              have eP := hP.eq
              obtain ⟨v1867, c1868⟩ : ∃ v, I1851 a0 10 = v := ⟨_, rfl⟩
              have b1869 := iv15_10 hS1858.1 ta0 c1868
              obtain ⟨v1870, c1871⟩ : ∃ v, I1851 a0 11 = v := ⟨_, rfl⟩
              obtain ⟨y1872, c1873⟩ : ∃ v, L1853 a0 15 = v := ⟨_, rfl⟩
              obtain ⟨v1874, c1875⟩ : ∃ v, I1851 a0 12 = v := ⟨_, rfl⟩
              obtain ⟨v1876, c1877⟩ : ∃ v, I1851 a0 8 = v := ⟨_, rfl⟩
              have b1878 := iv15_8 hS1858.1 ta0 c1877
              exact ⟨rfl, rfl, rfl, rfl, rfl, hS1858, (Or.inr (⟨(by first | done | omega), (by (try rw [c1861]); first | done | omega), (by (try rw [c1864]); first | done | omega), (by (try rw [c1866]); first | done | omega), trivial⟩)), trivial⟩
          · skip
            refine q_iconst dX12_readTurner_68 (by decide) ?_
            intro v1879 h1880
            refine tr_goto 73 dX12_readTurner_69 (by decide) ?_
            refine tr_istore_n dX12_readTurner_73 (by decide) (by decide) ?_
            refine tr_iload_n dX12_readTurner_74 rfl ?_
            refine q_iconst dX12_readTurner_75 (by decide) ?_
            intro v1881 h1882
            refine q_icmp_ne 84 dX12_readTurner_76 (by decide) (fun h1883 => ?_) (fun h1883 => ?_)
            · skip
              refine sf_tuO hE hZ hS1806.1 (gB) ta0 (by (try rw [c1812]); first | done | omega) ⟨_, d2⟩ rfl rfl rfl ?_
              rintro I1884 R1885 L1886 ⟨g1887, p1888, p1889, p1890, -⟩
              obtain rfl : R0 = R1885 := funext fun a => funext fun j => (g1887.2.2 a j (wm_no rfl)).symm
              have hS1891 := hS1806.tr g1887 (by decide +kernel) (by decide +kernel)
              have c1892 : I1884 a1 4 = v45 := (g1887.cell ta1 (by decide +kernel)).trans c1807
              obtain ⟨v1893, c1894⟩ : ∃ v, I1884 a0 9 = v := ⟨_, rfl⟩
              have b1895 := iv15_9 hS1891.1 ta0 c1894
              rw [c1894] at p1888
              obtain ⟨v1896, c1897⟩ : ∃ v, I1884 a0 13 = v := ⟨_, rfl⟩
              rw [c1897] at p1889
              rw [c1815] at p1889
              obtain ⟨v1898, c1899⟩ : ∃ v, I1884 a0 14 = v := ⟨_, rfl⟩
              rw [c1899] at p1890
              rw [c1817] at p1890
              have eF := hF.eq
              have eP := hP.eq
              obtain ⟨v1900, c1901⟩ : ∃ v, I1884 a0 10 = v := ⟨_, rfl⟩
              have b1902 := iv15_10 hS1891.1 ta0 c1901
              obtain ⟨v1903, c1904⟩ : ∃ v, I1884 a0 11 = v := ⟨_, rfl⟩
              obtain ⟨y1905, c1906⟩ : ∃ v, L1886 a0 15 = v := ⟨_, rfl⟩
              obtain ⟨v1907, c1908⟩ : ∃ v, I1884 a0 12 = v := ⟨_, rfl⟩
              obtain ⟨v1909, c1910⟩ : ∃ v, I1884 a0 8 = v := ⟨_, rfl⟩
              have b1911 := iv15_8 hS1891.1 ta0 c1910
              exact ⟨rfl, rfl, rfl, rfl, rfl, hS1891, (Or.inr (⟨(by first | done | omega), (by (try rw [c1894]); first | done | omega), (by (try rw [c1897]); first | done | omega), (by (try rw [c1899]); first | done | omega), trivial⟩)), trivial⟩
            · skip
              exfalso; omega
        · skip
          refine q_iconst dX12_readTurner_55 (by decide) ?_
          intro v1912 h1913
          refine tr_goto 73 dX12_readTurner_56 (by decide) ?_
          refine tr_istore_n dX12_readTurner_73 (by decide) (by decide) ?_
          refine tr_iload_n dX12_readTurner_74 rfl ?_
          refine q_iconst dX12_readTurner_75 (by decide) ?_
          intro v1914 h1915
          refine q_icmp_ne 84 dX12_readTurner_76 (by decide) (fun h1916 => ?_) (fun h1916 => ?_)
          · skip
            refine sf_tuO hE hZ hS1786.1 (gB) ta0 (by (try rw [c1792]); first | done | omega) ⟨_, d2⟩ rfl rfl rfl ?_
            rintro I1917 R1918 L1919 ⟨g1920, p1921, p1922, p1923, -⟩
            obtain rfl : R0 = R1918 := funext fun a => funext fun j => (g1920.2.2 a j (wm_no rfl)).symm
            have hS1924 := hS1786.tr g1920 (by decide +kernel) (by decide +kernel)
            have c1925 : I1917 a1 4 = v45 := (g1920.cell ta1 (by decide +kernel)).trans c1787
            obtain ⟨v1926, c1927⟩ : ∃ v, I1917 a0 9 = v := ⟨_, rfl⟩
            have b1928 := iv15_9 hS1924.1 ta0 c1927
            rw [c1927] at p1921
            obtain ⟨v1929, c1930⟩ : ∃ v, I1917 a0 13 = v := ⟨_, rfl⟩
            rw [c1930] at p1922
            rw [c1795] at p1922
            obtain ⟨v1931, c1932⟩ : ∃ v, I1917 a0 14 = v := ⟨_, rfl⟩
            rw [c1932] at p1923
            rw [c1797] at p1923
            have eF := hF.eq
            have eP := hP.eq
            obtain ⟨v1933, c1934⟩ : ∃ v, I1917 a0 10 = v := ⟨_, rfl⟩
            have b1935 := iv15_10 hS1924.1 ta0 c1934
            obtain ⟨v1936, c1937⟩ : ∃ v, I1917 a0 11 = v := ⟨_, rfl⟩
            obtain ⟨y1938, c1939⟩ : ∃ v, L1919 a0 15 = v := ⟨_, rfl⟩
            obtain ⟨v1940, c1941⟩ : ∃ v, I1917 a0 12 = v := ⟨_, rfl⟩
            obtain ⟨v1942, c1943⟩ : ∃ v, I1917 a0 8 = v := ⟨_, rfl⟩
            have b1944 := iv15_8 hS1924.1 ta0 c1943
            exact ⟨rfl, rfl, rfl, rfl, rfl, hS1924, (Or.inr (⟨(by first | done | omega), (by (try rw [c1927]); first | done | omega), (by (try rw [c1930]); first | done | omega), (by (try rw [c1932]); first | done | omega), trivial⟩)), trivial⟩
          · skip
            exfalso; omega
      · skip
        refine q_iconst dX12_readTurner_41 (by decide) ?_
        intro v1945 h1946
        refine tr_goto 73 dX12_readTurner_42 (by decide) ?_
        refine tr_istore_n dX12_readTurner_73 (by decide) (by decide) ?_
        refine tr_iload_n dX12_readTurner_74 rfl ?_
        refine q_iconst dX12_readTurner_75 (by decide) ?_
        intro v1947 h1948
        refine q_icmp_ne 84 dX12_readTurner_76 (by decide) (fun h1949 => ?_) (fun h1949 => ?_)
        · skip
          refine sf_tuO hE hZ hS1766.1 (gB) ta0 (by (try rw [c1772]); first | done | omega) ⟨_, d2⟩ rfl rfl rfl ?_
          rintro I1950 R1951 L1952 ⟨g1953, p1954, p1955, p1956, -⟩
          obtain rfl : R0 = R1951 := funext fun a => funext fun j => (g1953.2.2 a j (wm_no rfl)).symm
          have hS1957 := hS1766.tr g1953 (by decide +kernel) (by decide +kernel)
          have c1958 : I1950 a1 4 = v45 := (g1953.cell ta1 (by decide +kernel)).trans c1767
          obtain ⟨v1959, c1960⟩ : ∃ v, I1950 a0 9 = v := ⟨_, rfl⟩
          have b1961 := iv15_9 hS1957.1 ta0 c1960
          rw [c1960] at p1954
          obtain ⟨v1962, c1963⟩ : ∃ v, I1950 a0 13 = v := ⟨_, rfl⟩
          rw [c1963] at p1955
          rw [c1775] at p1955
          obtain ⟨v1964, c1965⟩ : ∃ v, I1950 a0 14 = v := ⟨_, rfl⟩
          rw [c1965] at p1956
          rw [c1777] at p1956
          have eF := hF.eq
          have eP := hP.eq
          obtain ⟨v1966, c1967⟩ : ∃ v, I1950 a0 10 = v := ⟨_, rfl⟩
          have b1968 := iv15_10 hS1957.1 ta0 c1967
          obtain ⟨v1969, c1970⟩ : ∃ v, I1950 a0 11 = v := ⟨_, rfl⟩
          obtain ⟨y1971, c1972⟩ : ∃ v, L1952 a0 15 = v := ⟨_, rfl⟩
          obtain ⟨v1973, c1974⟩ : ∃ v, I1950 a0 12 = v := ⟨_, rfl⟩
          obtain ⟨v1975, c1976⟩ : ∃ v, I1950 a0 8 = v := ⟨_, rfl⟩
          have b1977 := iv15_8 hS1957.1 ta0 c1976
          exact ⟨rfl, rfl, rfl, rfl, rfl, hS1957, (Or.inr (⟨(by first | done | omega), (by (try rw [c1960]); first | done | omega), (by (try rw [c1963]); first | done | omega), (by (try rw [c1965]); first | done | omega), trivial⟩)), trivial⟩
        · skip
          exfalso; omega
    · skip
      refine q_iconst dX12_readTurner_27 (by decide) ?_
      intro v1978 h1979
      refine tr_goto 73 dX12_readTurner_28 (by decide) ?_
      refine tr_istore_n dX12_readTurner_73 (by decide) (by decide) ?_
      refine tr_iload_n dX12_readTurner_74 rfl ?_
      refine q_iconst dX12_readTurner_75 (by decide) ?_
      intro v1980 h1981
      refine q_icmp_ne 84 dX12_readTurner_76 (by decide) (fun h1982 => ?_) (fun h1982 => ?_)
      · skip
        refine sf_tuO hE hZ hS1746.1 (gB) ta0 (by (try rw [c1752]); first | done | omega) ⟨_, d2⟩ rfl rfl rfl ?_
        rintro I1983 R1984 L1985 ⟨g1986, p1987, p1988, p1989, -⟩
        obtain rfl : R0 = R1984 := funext fun a => funext fun j => (g1986.2.2 a j (wm_no rfl)).symm
        have hS1990 := hS1746.tr g1986 (by decide +kernel) (by decide +kernel)
        have c1991 : I1983 a1 4 = v45 := (g1986.cell ta1 (by decide +kernel)).trans c1747
        obtain ⟨v1992, c1993⟩ : ∃ v, I1983 a0 9 = v := ⟨_, rfl⟩
        have b1994 := iv15_9 hS1990.1 ta0 c1993
        rw [c1993] at p1987
        obtain ⟨v1995, c1996⟩ : ∃ v, I1983 a0 13 = v := ⟨_, rfl⟩
        rw [c1996] at p1988
        rw [c1755] at p1988
        obtain ⟨v1997, c1998⟩ : ∃ v, I1983 a0 14 = v := ⟨_, rfl⟩
        rw [c1998] at p1989
        rw [c1757] at p1989
        have eF := hF.eq
        have eP := hP.eq
        obtain ⟨v1999, c2000⟩ : ∃ v, I1983 a0 10 = v := ⟨_, rfl⟩
        have b2001 := iv15_10 hS1990.1 ta0 c2000
        obtain ⟨v2002, c2003⟩ : ∃ v, I1983 a0 11 = v := ⟨_, rfl⟩
        obtain ⟨y2004, c2005⟩ : ∃ v, L1985 a0 15 = v := ⟨_, rfl⟩
        obtain ⟨v2006, c2007⟩ : ∃ v, I1983 a0 12 = v := ⟨_, rfl⟩
        obtain ⟨v2008, c2009⟩ : ∃ v, I1983 a0 8 = v := ⟨_, rfl⟩
        have b2010 := iv15_8 hS1990.1 ta0 c2009
        exact ⟨rfl, rfl, rfl, rfl, rfl, hS1990, (Or.inr (⟨(by first | done | omega), (by (try rw [c1993]); first | done | omega), (by (try rw [c1996]); first | done | omega), (by (try rw [c1998]); first | done | omega), trivial⟩)), trivial⟩
      · skip
        exfalso; omega
