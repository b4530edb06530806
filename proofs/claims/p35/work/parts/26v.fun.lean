def wif_oT147 : List Nat := [968, 969, 970, 971, 972, 973, 974]
def wrf_oT147 : List Nat := []
def wlf_oT147 : List Nat := []
set_option maxHeartbeats 4000000 in
theorem sf_oT147 {X : cz_X} (hE : cz_env X) {T : Nat → Nat} {cn : Nat} {K N : Nat → Nat} {I0 : cz_I} {R0 : cz_R} {L0 : cz_L} {Q : cz_Q} (hZ : cz_Z X mX12_readTurner Q) (hW0 : Wf T cn K N I0 R0 0) (gB : cz_B) {a0 : Nat} (ta0 : T a0 = 15) {y1 : Int64} {x2 : Int32} {x3 : Int32} {x4 : Int32} {x5 : Int32} {x6 : Int32} (pre0 : (I0 a0 9).toInt = 5) (nn4 : ∃ b, R0 a0 4 = some b) {ls : Nat → Option Value} (hl0 : ls 0 = some (.ref a0)) (hl1 : ls 1 = some (.long y1)) (hl3 : ls 3 = some (.int x2)) (hl4 : ls 4 = some (.int x3)) (hl5 : ls 5 = some (.int x4)) (hl6 : ls 6 = some (.int x5)) (hl7 : ls 7 = some (.int x6)) (hq : ∀ (I' : cz_I) (R' : cz_R) (L' : cz_L), St T cn K N 0 wif_oT147 wrf_oT147 I0 R0 I' R' ∧ ((I' a0 9).toInt = 5) ∧ ((I' a0 13).toInt = (I0 a0 13).toInt) ∧ ((I' a0 14).toInt = (I0 a0 14).toInt) ∧ True → Q none cn K N I' R' L') : Tr X mX12_readTurner 147 ls [] cn K N I0 R0 L0 0 0 := by
  have hS0 : St T cn K N 0 wif_oT147 wrf_oT147 I0 R0 I0 R0 := St.rf0 hW0
  have hL0 : LgS T wlf_oT147 L0 L0 := LgS.rf0
  obtain ⟨a1, d2⟩ := nn4
  have ta1 : T a1 = 14 := hW0.rsN ta0 rfl d2
  obtain ⟨v3, c4⟩ : ∃ v, I0 a0 9 = v := ⟨_, rfl⟩
  have b5 := iv15_9 hS0.1 ta0 c4
  have p6 := pre0
  rw [c4] at p6
  obtain ⟨v7, c8⟩ : ∃ v, I0 a0 13 = v := ⟨_, rfl⟩
  obtain ⟨v9, c10⟩ : ∃ v, I0 a0 14 = v := ⟨_, rfl⟩
  refine tr_aload_n dX12_readTurner_147 hl0 ?_
  refine tr_ldcS dX12_readTurner_148 ld12_253 ?_
  refine q_callVv hE (M' := mX12_needs) (as := [_]) dX12_readTurner_150 lk12_157 inX12_needs seX12_needs myX12_needs (by decide) ⟨by decide, by decide⟩ rfl (kR15 hS0.1 ta0) (Nat.le_of_ble_eq_true rfl) rfl rfl (by decide) (by decide) (k_X12_needs hS0.1 ta0 (by decide)) ?_
  rintro cn' K' N' I11 R12 L13 ⟨rfl, rfl, rfl, rfl, g14, w16, -⟩
  have hS17 := hS0.tr g14 (by decide +kernel) (by decide +kernel)
  have ov18 := w16.over (by rw [c4]; exact om_394b70a2 p6)
  obtain ⟨v19, c20⟩ : ∃ v, I11 a0 9 = v := ⟨_, rfl⟩
  have b21 := iv15_9 hS17.1 ta0 c20
  obtain ⟨v22, c23⟩ : ∃ v, I11 a0 13 = v := ⟨_, rfl⟩
  obtain ⟨v24, c25⟩ : ∃ v, I11 a0 14 = v := ⟨_, rfl⟩
  (try rw [c20] at ov18)
  (try rw [c23] at ov18)
  (try rw [c25] at ov18)
  (try rw [c4] at ov18)
  (try rw [c8] at ov18)
  (try rw [c10] at ov18)
  refine q_iconst dX12_readTurner_153 (by decide) ?_
  intro v26 h27
  refine tr_istore dX12_readTurner_154 (by decide) (by decide) ?_
  refine q_iconst dX12_readTurner_156 (by decide) ?_
  intro v28 h29
  refine tr_istore dX12_readTurner_157 (by decide) (by decide) ?_
  refine tr_iload dX12_readTurner_159 rfl ?_
  refine q_if_eq 227 dX12_readTurner_161 (by decide) (fun h30 => ?_) (fun h30 => ?_)
  · skip
    exfalso; exact om_3624102b h29 h30
  · skip
    refine tr_aload_n dX12_readTurner_164 hl0 ?_
    refine q_getI dX12_readTurner_165 fl12_99 (kR15 hS17.1 ta0) c20 ?_
    refine q_iconst dX12_readTurner_168 (by decide) ?_
    intro v31 h32
    refine q_icmp_eq 227 dX12_readTurner_169 (by decide) (fun h33 => ?_) (fun h33 => ?_)
    · skip
      refine tr_aload_n dX12_readTurner_227 hl0 ?_
      refine q_getI dX12_readTurner_228 fl12_99 (kR15 hS17.1 ta0) c20 ?_
      refine q_iconst dX12_readTurner_231 (by decide) ?_
      intro v34 h35
      refine q_icmp_ne 236 dX12_readTurner_232 (by decide) (fun h36 => ?_) (fun h36 => ?_)
      · skip
        exfalso; exact om_1fa3e129 ov18.1 h35 h36
      · skip
        exact tr_vret hZ dX12_readTurner_235 rfl (by decide) (by decide) (hq _ _ _ ⟨hS17, (by (try rw [c20]); first | done | with_reducible assumption | exact om_394b70a2 ov18.1), (by (try rw [c23]); (try rw [c8]); first | done | with_reducible assumption | exact om_acd7a85a ov18.2.1), (by (try rw [c25]); (try rw [c10]); first | done | with_reducible assumption | exact om_acd7a85a ov18.2.2), trivial⟩)
    · skip
      exfalso; exact om_1fa3e129 ov18.1 h32 h33
def wif_oT135 : List Nat := [968, 969, 970, 971, 972, 973, 974]
def wrf_oT135 : List Nat := []
def wlf_oT135 : List Nat := []
set_option maxHeartbeats 4000000 in
theorem sf_oT135 {X : cz_X} (hE : cz_env X) {T : Nat → Nat} {cn : Nat} {K N : Nat → Nat} {I0 : cz_I} {R0 : cz_R} {L0 : cz_L} {Q : cz_Q} (hZ : cz_Z X mX12_readTurner Q) (hW0 : Wf T cn K N I0 R0 0) (gB : cz_B) {a0 : Nat} (ta0 : T a0 = 15) {y1 : Int64} {x2 : Int32} {x3 : Int32} {x4 : Int32} {x5 : Int32} (pre0 : (I0 a0 9).toInt = 5) (nn4 : ∃ b, R0 a0 4 = some b) {ls : Nat → Option Value} (hl0 : ls 0 = some (.ref a0)) (hl1 : ls 1 = some (.long y1)) (hl3 : ls 3 = some (.int x2)) (hl4 : ls 4 = some (.int x3)) (hl5 : ls 5 = some (.int x4)) (hl6 : ls 6 = some (.int x5)) (hq : ∀ (I' : cz_I) (R' : cz_R) (L' : cz_L), St T cn K N 0 wif_oT135 wrf_oT135 I0 R0 I' R' ∧ ((I' a0 9).toInt = 5) ∧ ((I' a0 13).toInt = (I0 a0 13).toInt) ∧ ((I' a0 14).toInt = (I0 a0 14).toInt) ∧ True → Q none cn K N I' R' L') : Tr X mX12_readTurner 135 ls [] cn K N I0 R0 L0 0 0 := by
  have hS0 : St T cn K N 0 wif_oT135 wrf_oT135 I0 R0 I0 R0 := St.rf0 hW0
  have hL0 : LgS T wlf_oT135 L0 L0 := LgS.rf0
  obtain ⟨a1, d2⟩ := nn4
  have ta1 : T a1 = 14 := hW0.rsN ta0 rfl d2
  obtain ⟨v3, c4⟩ : ∃ v, I0 a0 9 = v := ⟨_, rfl⟩
  have b5 := iv15_9 hS0.1 ta0 c4
  have p6 := pre0
  rw [c4] at p6
  obtain ⟨v7, c8⟩ : ∃ v, I0 a0 13 = v := ⟨_, rfl⟩
  obtain ⟨v9, c10⟩ : ∃ v, I0 a0 14 = v := ⟨_, rfl⟩
  refine tr_aload_n dX12_readTurner_135 hl0 ?_
  refine tr_ldcwS dX12_readTurner_136 ld12_327 ?_
  refine q_iconst dX12_readTurner_139 (by decide) ?_
  intro v11 h12
  refine q_bipush dX12_readTurner_140 (by decide +kernel) ?_
  intro v13 h14
  refine q_callVi hE (M' := mX12_readPart) (as := [_, _, _]) dX12_readTurner_142 lk12_249 inX12_readPart seX12_readPart myX12_readPart (by decide) ⟨by decide, by decide⟩ rfl (kR15 hS0.1 ta0) (Nat.le_of_ble_eq_true rfl) rfl rfl (by decide) (by decide) (k_X12_readPart hS0.1 ta0 (by decide)) ?_
  rintro v19 cn' K' N' I15 R16 L17 ⟨rfl, rfl, rfl, rfl, g18, p20, w21, -⟩
  have hS22 := hS0.tr g18 (by decide +kernel) (by decide +kernel)
  have b23 : 1 ≤ v19.toInt ∧ v19.toInt ≤ 20 := by exact om_70437301 h12 h14 p20
  clear p20
  have ov24 := w21.over (by rw [c4]; exact om_394b70a2 p6)
  obtain ⟨v25, c26⟩ : ∃ v, I15 a0 9 = v := ⟨_, rfl⟩
  have b27 := iv15_9 hS22.1 ta0 c26
  obtain ⟨v28, c29⟩ : ∃ v, I15 a0 13 = v := ⟨_, rfl⟩
  obtain ⟨v30, c31⟩ : ∃ v, I15 a0 14 = v := ⟨_, rfl⟩
  (try rw [c26] at ov24)
  (try rw [c29] at ov24)
  (try rw [c31] at ov24)
  (try rw [c4] at ov24)
  (try rw [c8] at ov24)
  (try rw [c10] at ov24)
  refine tr_istore dX12_readTurner_145 (by decide) (by decide) ?_
  refine sf_oT147 hE hZ hS22.1 (gB) ta0 (by (try rw [c26]); first | done | with_reducible assumption | exact om_394b70a2 ov24.1) ⟨_, d2⟩ hl0 hl1 hl3 hl4 hl5 hl6 rfl ?_
  rintro I32 R33 L34 ⟨g35, p36, p37, p38, -⟩
  obtain rfl : R0 = R33 := funext fun a => funext fun j => (g35.2.2 a j (wm_no rfl)).symm
  have hS39 := hS22.tr g35 (by decide +kernel) (by decide +kernel)
  obtain ⟨v40, c41⟩ : ∃ v, I32 a0 9 = v := ⟨_, rfl⟩
  have b42 := iv15_9 hS39.1 ta0 c41
  rw [c41] at p36
  obtain ⟨v43, c44⟩ : ∃ v, I32 a0 13 = v := ⟨_, rfl⟩
  rw [c44] at p37
  rw [c29] at p37
  obtain ⟨v45, c46⟩ : ∃ v, I32 a0 14 = v := ⟨_, rfl⟩
  rw [c46] at p38
  rw [c31] at p38
  exact hq _ _ _ ⟨hS39, (by (try rw [c41]); first | done | with_reducible assumption | omega), (by (try rw [c44]); (try rw [c8]); first | done | with_reducible assumption | exact om_9fa72578 ov24.2.1 p37), (by (try rw [c46]); (try rw [c10]); first | done | with_reducible assumption | exact om_9fa72578 ov24.2.2 p38), trivial⟩
def wif_oT123 : List Nat := [968, 969, 970, 971, 972, 973, 974]
def wrf_oT123 : List Nat := []
def wlf_oT123 : List Nat := []
set_option maxHeartbeats 4000000 in
theorem sf_oT123 {X : cz_X} (hE : cz_env X) {T : Nat → Nat} {cn : Nat} {K N : Nat → Nat} {I0 : cz_I} {R0 : cz_R} {L0 : cz_L} {Q : cz_Q} (hZ : cz_Z X mX12_readTurner Q) (hW0 : Wf T cn K N I0 R0 0) (gB : cz_B) {a0 : Nat} (ta0 : T a0 = 15) {y1 : Int64} {x2 : Int32} {x3 : Int32} {x4 : Int32} (pre0 : (I0 a0 9).toInt = 5) (nn4 : ∃ b, R0 a0 4 = some b) {ls : Nat → Option Value} (hl0 : ls 0 = some (.ref a0)) (hl1 : ls 1 = some (.long y1)) (hl3 : ls 3 = some (.int x2)) (hl4 : ls 4 = some (.int x3)) (hl5 : ls 5 = some (.int x4)) (hq : ∀ (I' : cz_I) (R' : cz_R) (L' : cz_L), St T cn K N 0 wif_oT123 wrf_oT123 I0 R0 I' R' ∧ ((I' a0 9).toInt = 5) ∧ ((I' a0 13).toInt = (I0 a0 13).toInt) ∧ ((I' a0 14).toInt = (I0 a0 14).toInt) ∧ True → Q none cn K N I' R' L') : Tr X mX12_readTurner 123 ls [] cn K N I0 R0 L0 0 0 := by
  have hS0 : St T cn K N 0 wif_oT123 wrf_oT123 I0 R0 I0 R0 := St.rf0 hW0
  have hL0 : LgS T wlf_oT123 L0 L0 := LgS.rf0
  obtain ⟨a1, d2⟩ := nn4
  have ta1 : T a1 = 14 := hW0.rsN ta0 rfl d2
  obtain ⟨v3, c4⟩ : ∃ v, I0 a0 9 = v := ⟨_, rfl⟩
  have b5 := iv15_9 hS0.1 ta0 c4
  have p6 := pre0
  rw [c4] at p6
  obtain ⟨v7, c8⟩ : ∃ v, I0 a0 13 = v := ⟨_, rfl⟩
  obtain ⟨v9, c10⟩ : ∃ v, I0 a0 14 = v := ⟨_, rfl⟩
  refine tr_aload_n dX12_readTurner_123 hl0 ?_
  refine tr_ldcwS dX12_readTurner_124 ld12_325 ?_
  refine q_iconst dX12_readTurner_127 (by decide) ?_
  intro v11 h12
  refine q_bipush dX12_readTurner_128 (by decide +kernel) ?_
  intro v13 h14
  refine q_callVi hE (M' := mX12_readPart) (as := [_, _, _]) dX12_readTurner_130 lk12_249 inX12_readPart seX12_readPart myX12_readPart (by decide) ⟨by decide, by decide⟩ rfl (kR15 hS0.1 ta0) (Nat.le_of_ble_eq_true rfl) rfl rfl (by decide) (by decide) (k_X12_readPart hS0.1 ta0 (by decide)) ?_
  rintro v19 cn' K' N' I15 R16 L17 ⟨rfl, rfl, rfl, rfl, g18, p20, w21, -⟩
  have hS22 := hS0.tr g18 (by decide +kernel) (by decide +kernel)
  have b23 : 1 ≤ v19.toInt ∧ v19.toInt ≤ 8 := by exact om_796bcfe4 h12 h14 p20
  clear p20
  have ov24 := w21.over (by rw [c4]; exact om_394b70a2 p6)
  obtain ⟨v25, c26⟩ : ∃ v, I15 a0 9 = v := ⟨_, rfl⟩
  have b27 := iv15_9 hS22.1 ta0 c26
  obtain ⟨v28, c29⟩ : ∃ v, I15 a0 13 = v := ⟨_, rfl⟩
  obtain ⟨v30, c31⟩ : ∃ v, I15 a0 14 = v := ⟨_, rfl⟩
  (try rw [c26] at ov24)
  (try rw [c29] at ov24)
  (try rw [c31] at ov24)
  (try rw [c4] at ov24)
  (try rw [c8] at ov24)
  (try rw [c10] at ov24)
  refine tr_istore dX12_readTurner_133 (by decide) (by decide) ?_
  refine sf_oT135 hE hZ hS22.1 (gB) ta0 (by (try rw [c26]); first | done | with_reducible assumption | exact om_394b70a2 ov24.1) ⟨_, d2⟩ hl0 hl1 hl3 hl4 hl5 rfl ?_
  rintro I32 R33 L34 ⟨g35, p36, p37, p38, -⟩
  obtain rfl : R0 = R33 := funext fun a => funext fun j => (g35.2.2 a j (wm_no rfl)).symm
  have hS39 := hS22.tr g35 (by decide +kernel) (by decide +kernel)
  obtain ⟨v40, c41⟩ : ∃ v, I32 a0 9 = v := ⟨_, rfl⟩
  have b42 := iv15_9 hS39.1 ta0 c41
  rw [c41] at p36
  obtain ⟨v43, c44⟩ : ∃ v, I32 a0 13 = v := ⟨_, rfl⟩
  rw [c44] at p37
  rw [c29] at p37
  obtain ⟨v45, c46⟩ : ∃ v, I32 a0 14 = v := ⟨_, rfl⟩
  rw [c46] at p38
  rw [c31] at p38
  exact hq _ _ _ ⟨hS39, (by (try rw [c41]); first | done | with_reducible assumption | omega), (by (try rw [c44]); (try rw [c8]); first | done | with_reducible assumption | exact om_9fa72578 ov24.2.1 p37), (by (try rw [c46]); (try rw [c10]); first | done | with_reducible assumption | exact om_9fa72578 ov24.2.2 p38), trivial⟩
def wif_oT103 : List Nat := [968, 969, 970, 971, 972, 973, 974]
def wrf_oT103 : List Nat := []
def wlf_oT103 : List Nat := []
set_option maxHeartbeats 4000000 in
theorem sf_oT103 {X : cz_X} (hE : cz_env X) {T : Nat → Nat} {cn : Nat} {K N : Nat → Nat} {I0 : cz_I} {R0 : cz_R} {L0 : cz_L} {Q : cz_Q} (hZ : cz_Z X mX12_readTurner Q) (hW0 : Wf T cn K N I0 R0 0) (gB : cz_B) {a0 : Nat} (ta0 : T a0 = 15) {y1 : Int64} {x2 : Int32} {x3 : Int32} (pre0 : (I0 a0 9).toInt = 5) (nn4 : ∃ b, R0 a0 4 = some b) {ls : Nat → Option Value} (hl0 : ls 0 = some (.ref a0)) (hl1 : ls 1 = some (.long y1)) (hl3 : ls 3 = some (.int x2)) (hl4 : ls 4 = some (.int x3)) (hq : ∀ (I' : cz_I) (R' : cz_R) (L' : cz_L), St T cn K N 0 wif_oT103 wrf_oT103 I0 R0 I' R' ∧ ((I' a0 9).toInt = 5) ∧ ((I' a0 13).toInt = (I0 a0 13).toInt) ∧ ((I' a0 14).toInt = (I0 a0 14).toInt) ∧ True → Q none cn K N I' R' L') : Tr X mX12_readTurner 103 ls [] cn K N I0 R0 L0 0 0 := by
  have hS0 : St T cn K N 0 wif_oT103 wrf_oT103 I0 R0 I0 R0 := St.rf0 hW0
  have hL0 : LgS T wlf_oT103 L0 L0 := LgS.rf0
  obtain ⟨a1, d2⟩ := nn4
  have ta1 : T a1 = 14 := hW0.rsN ta0 rfl d2
  obtain ⟨v3, c4⟩ : ∃ v, I0 a0 9 = v := ⟨_, rfl⟩
  have b5 := iv15_9 hS0.1 ta0 c4
  have p6 := pre0
  rw [c4] at p6
  obtain ⟨v7, c8⟩ : ∃ v, I0 a0 13 = v := ⟨_, rfl⟩
  obtain ⟨v9, c10⟩ : ∃ v, I0 a0 14 = v := ⟨_, rfl⟩
  refine tr_aload_n dX12_readTurner_103 hl0 ?_
  refine tr_ldcwS dX12_readTurner_104 ld12_272 ?_
  refine tr_iload dX12_readTurner_107 hl4 ?_
  refine q_iconst dX12_readTurner_109 (by decide) ?_
  intro v11 h12
  refine q_iadd dX12_readTurner_110 ?_
  intro v13
  refine tr_aload_n dX12_readTurner_111 hl0 ?_
  refine tr_getR dX12_readTurner_112 fl12_188 (kR15 hS0.1 ta0) d2 ?_
  obtain ⟨v14, c15⟩ : ∃ v, I0 a1 0 = v := ⟨_, rfl⟩
  have b16 := iv14_0 hW0 ta1 c15
  refine q_getI dX12_readTurner_115 fl12_192 (kR14 hS0.1 ta1) c15 ?_
  refine q_callVi hE (M' := mX12_readPart) (as := [_, _, _]) dX12_readTurner_118 lk12_249 inX12_readPart seX12_readPart myX12_readPart (by decide) ⟨by decide, by decide⟩ rfl (kR15 hS0.1 ta0) (Nat.le_of_ble_eq_true rfl) rfl rfl (by decide) (by decide) (k_X12_readPart hS0.1 ta0 (by decide)) ?_
  rintro v21 cn' K' N' I17 R18 L19 ⟨rfl, rfl, rfl, rfl, g20, p22, w23, -⟩
  have hS24 := hS0.tr g20 (by decide +kernel) (by decide +kernel)
  have ov25 := w23.over (by rw [c4]; exact om_394b70a2 p6)
  obtain ⟨v26, c27⟩ : ∃ v, I17 a0 9 = v := ⟨_, rfl⟩
  have b28 := iv15_9 hS24.1 ta0 c27
  obtain ⟨v29, c30⟩ : ∃ v, I17 a0 13 = v := ⟨_, rfl⟩
  obtain ⟨v31, c32⟩ : ∃ v, I17 a0 14 = v := ⟨_, rfl⟩
  (try rw [c27] at ov25)
  (try rw [c30] at ov25)
  (try rw [c32] at ov25)
  (try rw [c4] at ov25)
  (try rw [c8] at ov25)
  (try rw [c10] at ov25)
  refine tr_istore dX12_readTurner_121 (by decide) (by decide) ?_
  refine sf_oT123 hE hZ hS24.1 (gB) ta0 (by (try rw [c27]); first | done | with_reducible assumption | exact om_394b70a2 ov25.1) ⟨_, d2⟩ hl0 hl1 hl3 hl4 rfl ?_
  rintro I33 R34 L35 ⟨g36, p37, p38, p39, -⟩
  obtain rfl : R0 = R34 := funext fun a => funext fun j => (g36.2.2 a j (wm_no rfl)).symm
  have hS40 := hS24.tr g36 (by decide +kernel) (by decide +kernel)
  obtain ⟨v41, c42⟩ : ∃ v, I33 a0 9 = v := ⟨_, rfl⟩
  have b43 := iv15_9 hS40.1 ta0 c42
  rw [c42] at p37
  obtain ⟨v44, c45⟩ : ∃ v, I33 a0 13 = v := ⟨_, rfl⟩
  rw [c45] at p38
  rw [c30] at p38
  obtain ⟨v46, c47⟩ : ∃ v, I33 a0 14 = v := ⟨_, rfl⟩
  rw [c47] at p39
  rw [c32] at p39
  exact hq _ _ _ ⟨hS40, (by (try rw [c42]); first | done | with_reducible assumption | omega), (by (try rw [c45]); (try rw [c8]); first | done | with_reducible assumption | exact om_9fa72578 ov25.2.1 p38), (by (try rw [c47]); (try rw [c10]); first | done | with_reducible assumption | exact om_9fa72578 ov25.2.2 p39), trivial⟩
def wif_tuO : List Nat := [968, 969, 970, 971, 972, 973, 974]
def wrf_tuO : List Nat := []
def wlf_tuO : List Nat := []
set_option maxHeartbeats 4000000 in
theorem sf_tuO {X : cz_X} (hE : cz_env X) {T : Nat → Nat} {cn : Nat} {K N : Nat → Nat} {I0 : cz_I} {R0 : cz_R} {L0 : cz_L} {Q : cz_Q} (hZ : cz_Z X mX12_readTurner Q) (hW0 : Wf T cn K N I0 R0 0) (gB : cz_B) {a0 : Nat} (ta0 : T a0 = 15) {y1 : Int64} {x2 : Int32} (pre0 : (I0 a0 9).toInt = 5) (nn4 : ∃ b, R0 a0 4 = some b) {ls : Nat → Option Value} (hl0 : ls 0 = some (.ref a0)) (hl1 : ls 1 = some (.long y1)) (hl3 : ls 3 = some (.int x2)) (hq : ∀ (I' : cz_I) (R' : cz_R) (L' : cz_L), St T cn K N 0 wif_tuO wrf_tuO I0 R0 I' R' ∧ ((I' a0 9).toInt = 5) ∧ ((I' a0 13).toInt = (I0 a0 13).toInt) ∧ ((I' a0 14).toInt = (I0 a0 14).toInt) ∧ True → Q none cn K N I' R' L') : Tr X mX12_readTurner 84 ls [] cn K N I0 R0 L0 0 0 := by
  have hS0 : St T cn K N 0 wif_tuO wrf_tuO I0 R0 I0 R0 := St.rf0 hW0
  have hL0 : LgS T wlf_tuO L0 L0 := LgS.rf0
  obtain ⟨a1, d2⟩ := nn4
  have ta1 : T a1 = 14 := hW0.rsN ta0 rfl d2
  obtain ⟨v3, c4⟩ : ∃ v, I0 a0 9 = v := ⟨_, rfl⟩
  have b5 := iv15_9 hS0.1 ta0 c4
  have p6 := pre0
  rw [c4] at p6
  obtain ⟨v7, c8⟩ : ∃ v, I0 a0 13 = v := ⟨_, rfl⟩
  obtain ⟨v9, c10⟩ : ∃ v, I0 a0 14 = v := ⟨_, rfl⟩
  refine tr_aload_n dX12_readTurner_84 hl0 ?_
  refine tr_ldcwS dX12_readTurner_85 ld12_324 ?_
  refine q_iconst dX12_readTurner_88 (by decide) ?_
  intro v11 h12
  refine tr_aload_n dX12_readTurner_89 hl0 ?_
  refine tr_getR dX12_readTurner_90 fl12_188 (kR15 hS0.1 ta0) d2 ?_
  obtain ⟨v13, c14⟩ : ∃ v, I0 a1 0 = v := ⟨_, rfl⟩
  have b15 := iv14_0 hW0 ta1 c14
  refine q_getI dX12_readTurner_93 fl12_192 (kR14 hS0.1 ta1) c14 ?_
  refine q_iconst dX12_readTurner_96 (by decide) ?_
  intro v16 h17
  refine q_isubE dX12_readTurner_97 (by intro j1 j2 j3 j4; exact om_c6626f59 b15.2 b15.1 h17) ?_
  intro v18 h19
  refine q_callVi hE (M' := mX12_readPart) (as := [_, _, _]) dX12_readTurner_98 lk12_249 inX12_readPart seX12_readPart myX12_readPart (by decide) ⟨by decide, by decide⟩ rfl (kR15 hS0.1 ta0) (Nat.le_of_ble_eq_true rfl) rfl rfl (by decide) (by decide) (k_X12_readPart hS0.1 ta0 (by decide)) ?_
  rintro v24 cn' K' N' I20 R21 L22 ⟨rfl, rfl, rfl, rfl, g23, p25, w26, -⟩
  have hS27 := hS0.tr g23 (by decide +kernel) (by decide +kernel)
  have b28 : 0 ≤ v24.toInt ∧ v24.toInt ≤ 239 := by exact om_62c0eb21 h12 b15.2 b15.1 h17 h19 p25
  clear p25
  have ov29 := w26.over (by rw [c4]; exact om_394b70a2 p6)
  obtain ⟨v30, c31⟩ : ∃ v, I20 a0 9 = v := ⟨_, rfl⟩
  have b32 := iv15_9 hS27.1 ta0 c31
  obtain ⟨v33, c34⟩ : ∃ v, I20 a0 13 = v := ⟨_, rfl⟩
  obtain ⟨v35, c36⟩ : ∃ v, I20 a0 14 = v := ⟨_, rfl⟩
  (try rw [c31] at ov29)
  (try rw [c34] at ov29)
  (try rw [c36] at ov29)
  (try rw [c4] at ov29)
  (try rw [c8] at ov29)
  (try rw [c10] at ov29)
  refine tr_istore dX12_readTurner_101 (by decide) (by decide) ?_
  refine sf_oT103 hE hZ hS27.1 (gB) ta0 (by (try rw [c31]); first | done | with_reducible assumption | exact om_394b70a2 ov29.1) ⟨_, d2⟩ hl0 hl1 hl3 rfl ?_
  rintro I37 R38 L39 ⟨g40, p41, p42, p43, -⟩
  obtain rfl : R0 = R38 := funext fun a => funext fun j => (g40.2.2 a j (wm_no rfl)).symm
  have hS44 := hS27.tr g40 (by decide +kernel) (by decide +kernel)
  obtain ⟨v45, c46⟩ : ∃ v, I37 a0 9 = v := ⟨_, rfl⟩
  have b47 := iv15_9 hS44.1 ta0 c46
  rw [c46] at p41
  obtain ⟨v48, c49⟩ : ∃ v, I37 a0 13 = v := ⟨_, rfl⟩
  rw [c49] at p42
  rw [c34] at p42
  obtain ⟨v50, c51⟩ : ∃ v, I37 a0 14 = v := ⟨_, rfl⟩
  rw [c51] at p43
  rw [c36] at p43
  exact hq _ _ _ ⟨hS44, (by (try rw [c46]); first | done | with_reducible assumption | omega), (by (try rw [c49]); (try rw [c8]); first | done | with_reducible assumption | exact om_9fa72578 ov29.2.1 p42), (by (try rw [c51]); (try rw [c10]); first | done | with_reducible assumption | exact om_9fa72578 ov29.2.2 p43), trivial⟩
def wif_tuL : List Nat := [900, 903, 968, 969, 970, 971, 972, 973, 974, 4095, 4159, 4223, 4287, 4351, 4415, 4799, 4863]
def wrf_tuL : List Nat := []
def wlf_tuL : List Nat := [975, 4735]
set_option maxHeartbeats 4000000 in
theorem sf_tuL {X : cz_X} (hE : cz_env X) {T : Nat → Nat} {cn : Nat} {K N : Nat → Nat} {I0 : cz_I} {R0 : cz_R} {L0 : cz_L} {Q : cz_Q} (hZ : cz_Z X mX12_readTurner Q) (hW0 : Wf T cn K N I0 R0 0) (gB : cz_B) (gs : Int) (gQ : Nat → Int) {a0 : Nat} (ta0 : T a0 = 15) {y1 : Int64} {x2 : Int32} (hx2 : 0 ≤ x2.toInt ∧ x2.toInt ≤ 3) (hT : ∀ t, R0 a0 5 = some t → Tx I0 t gB) (hN : ∀ b, R0 a0 4 = some b → NmM I0 R0 L0 b gQ) (pre0 : (I0 a0 9).toInt = (tkM gB (tkN gB (tkN gB (tkN gB gs))))) (pre1 : (I0 a0 9).toInt ≤ 4) (pre2 : (I0 a0 10).toInt = (tkS gB (tkN gB (tkN gB (tkN gB gs))))) (pre3 : (I0 a0 11).toInt = (tkG gB (tkN gB (tkN gB (tkN gB gs))))) (pre4 : (AtW ((tkK gB (tkN gB (tkN gB (tkN gB gs))))) ((L0 a0 15).toInt) ((tkW gB (tkN gB (tkN gB (tkN gB gs))))))) (pre5 : (AtV ((tkK gB (tkN gB (tkN gB (tkN gB gs))))) ((I0 a0 12).toInt) ((tkV gB (tkN gB (tkN gB (tkN gB gs))))))) (pre6 : (AtN ((tkK gB (tkN gB (tkN gB (tkN gB gs))))) ((I0 a0 8).toInt) ((tkN gB (tkN gB (tkN gB (tkN gB gs))))))) (pre7 : (I0 a0 7).toInt = (gB.2)) (pre8 : ∀ b1, R0 a0 4 = some b1 → (I0 b1 0).toInt = (gQ 0)) (pre9 : ∀ b1, R0 a0 4 = some b1 → (I0 b1 1).toInt = (gQ 1)) (pre10 : ∀ b1, R0 a0 4 = some b1 → (I0 b1 2).toInt = (gQ 2)) (pre11 : ∀ b1, R0 a0 4 = some b1 → (I0 b1 3).toInt = (gQ 3)) (pre12 : ∀ b1, R0 a0 4 = some b1 → (I0 b1 4).toInt = (gQ 4)) (pre13 : ∀ b1, R0 a0 4 = some b1 → (I0 b1 5).toInt = (gQ 5)) (pre14 : ∀ b1, R0 a0 4 = some b1 → (I0 b1 6).toInt = (gQ 6)) (pre15 : ∀ b1, R0 a0 4 = some b1 → (I0 b1 9).toInt = (gQ 8)) (pre16 : (Q7M ((gQ 0)) ((gQ 7)))) (pre17 : (tkK gB gs) = 1) (pre18 : (srt gB gs) = 7) (pre19 : (gQ 4) ≤ 4) (pre20 : (gQ 0) ≠ 0) (pre21 : (isN gB (tkN gB gs)) = 1) (pre22 : (nmI gQ 100 (gQ 3) (tkW gB (tkN gB gs))) = -1) (pre23 : (nmI gQ 200 (gQ 4) (tkW gB (tkN gB gs))) = -1) (pre24 : y1.toInt = (tkW gB (tkN gB gs))) (pre25 : (tkd gB (tkN gB (tkN gB gs))) = x2.toInt) (nn4 : ∃ b, R0 a0 4 = some b) {ls : Nat → Option Value} (hl0 : ls 0 = some (.ref a0)) (hl1 : ls 1 = some (.long y1)) (hl3 : ls 3 = some (.int x2)) (hq : ∀ (I' : cz_I) (R' : cz_R) (L' : cz_L), St T cn K N 0 wif_tuL wrf_tuL I0 R0 I' R' ∧ (∀ dr, R0 a0 4 = some dr → FrO 14 dr T I0 I') ∧ ((((lnF gB gQ gs) = 0) ∧ (∀ b1, R' a0 4 = some b1 → (I' b1 0).toInt = (lnQ gB gQ gs 0)) ∧ (∀ b1, R' a0 4 = some b1 → (I' b1 1).toInt = (lnQ gB gQ gs 1)) ∧ (∀ b1, R' a0 4 = some b1 → (I' b1 2).toInt = (lnQ gB gQ gs 2)) ∧ (∀ b1, R' a0 4 = some b1 → (I' b1 3).toInt = (lnQ gB gQ gs 3)) ∧ (∀ b1, R' a0 4 = some b1 → (I' b1 4).toInt = (lnQ gB gQ gs 4)) ∧ (∀ b1, R' a0 4 = some b1 → (I' b1 5).toInt = (lnQ gB gQ gs 5)) ∧ (∀ b1, R' a0 4 = some b1 → (I' b1 6).toInt = (lnQ gB gQ gs 6)) ∧ (∀ b1, R' a0 4 = some b1 → (I' b1 9).toInt = (lnQ gB gQ gs 8)) ∧ ((I' a0 13).toInt = (I0 a0 13).toInt) ∧ ((I' a0 9).toInt = (tkM gB (lnS gB gQ gs))) ∧ ((I' a0 9).toInt ≤ 4) ∧ ((I' a0 10).toInt = (tkS gB (lnS gB gQ gs))) ∧ ((I' a0 11).toInt = (tkG gB (lnS gB gQ gs))) ∧ ((AtW ((tkK gB (lnS gB gQ gs))) ((L' a0 15).toInt) ((tkW gB (lnS gB gQ gs))))) ∧ ((AtV ((tkK gB (lnS gB gQ gs))) ((I' a0 12).toInt) ((tkV gB (lnS gB gQ gs))))) ∧ ((AtN ((tkK gB (lnS gB gQ gs))) ((I' a0 8).toInt) ((tkN gB (lnS gB gQ gs))))) ∧ LgS T wlf_tuL L0 L' ∧ (∀ b, R0 a0 4 = some b → NmM I' R' L' b (lnQ gB gQ gs)) ∧ True) ∨ (((lnF gB gQ gs) ≠ 0) ∧ ((I' a0 9).toInt = 5) ∧ ((I' a0 13).toInt = (lnF gB gQ gs)) ∧ ((I' a0 14).toInt = (lnP gB gQ gs)) ∧ True)) ∧ True → Q none cn K N I' R' L') : Tr X mX12_readTurner 84 ls [] cn K N I0 R0 L0 0 0 := by
  have hS0 : St T cn K N 0 wif_tuL wrf_tuL I0 R0 I0 R0 := St.rf0 hW0
  have hL0 : LgS T wlf_tuL L0 L0 := LgS.rf0
  obtain ⟨a1, d2⟩ := nn4
  have ta1 : T a1 = 14 := hW0.rsN ta0 rfl d2
  obtain ⟨v3, c4⟩ : ∃ v, I0 a0 9 = v := ⟨_, rfl⟩
  have b5 := iv15_9 hS0.1 ta0 c4
  have p6 := pre0
  rw [c4] at p6
  have p7 := pre1
  rw [c4] at p7
  obtain ⟨v8, c9⟩ : ∃ v, I0 a0 10 = v := ⟨_, rfl⟩
  have b10 := iv15_10 hS0.1 ta0 c9
  have p11 := pre2
  rw [c9] at p11
  obtain ⟨v12, c13⟩ : ∃ v, I0 a0 11 = v := ⟨_, rfl⟩
  have p14 := pre3
  rw [c13] at p14
  obtain ⟨y15, c16⟩ : ∃ v, L0 a0 15 = v := ⟨_, rfl⟩
  have p17 := pre4
  rw [c16] at p17
  obtain ⟨v18, c19⟩ : ∃ v, I0 a0 12 = v := ⟨_, rfl⟩
  have p20 := pre5
  rw [c19] at p20
  obtain ⟨v21, c22⟩ : ∃ v, I0 a0 8 = v := ⟨_, rfl⟩
  have b23 := iv15_8 hS0.1 ta0 c22
  have p24 := pre6
  rw [c22] at p24
  obtain ⟨v25, c26⟩ : ∃ v, I0 a0 7 = v := ⟨_, rfl⟩
  have b27 := iv15_7 hW0 ta0 c26
  have p28 := pre7
  rw [c26] at p28
  obtain ⟨v29, c30⟩ : ∃ v, I0 a1 0 = v := ⟨_, rfl⟩
  have b31 := iv14_0 hW0 ta1 c30
  have p32 := pre8 _ d2
  rw [c30] at p32
  obtain ⟨v33, c34⟩ : ∃ v, I0 a1 1 = v := ⟨_, rfl⟩
  have b35 := iv14_1 hW0 ta1 c34
  have p36 := pre9 _ d2
  rw [c34] at p36
  obtain ⟨v37, c38⟩ : ∃ v, I0 a1 2 = v := ⟨_, rfl⟩
  have b39 := iv14_2 hW0 ta1 c38
  have p40 := pre10 _ d2
  rw [c38] at p40
  obtain ⟨v41, c42⟩ : ∃ v, I0 a1 3 = v := ⟨_, rfl⟩
  have b43 := iv14_3 hW0 ta1 c42
  have p44 := pre11 _ d2
  rw [c42] at p44
  obtain ⟨v45, c46⟩ : ∃ v, I0 a1 4 = v := ⟨_, rfl⟩
  have b47 := iv14_4 hS0.1 ta1 c46
  have p48 := pre12 _ d2
  rw [c46] at p48
  obtain ⟨v49, c50⟩ : ∃ v, I0 a1 5 = v := ⟨_, rfl⟩
  have b51 := iv14_5 hW0 ta1 c50
  have p52 := pre13 _ d2
  rw [c50] at p52
  obtain ⟨v53, c54⟩ : ∃ v, I0 a1 6 = v := ⟨_, rfl⟩
  have b55 := iv14_6 hW0 ta1 c54
  have p56 := pre14 _ d2
  rw [c54] at p56
  obtain ⟨v57, c58⟩ : ∃ v, I0 a1 9 = v := ⟨_, rfl⟩
  have b59 := iv14_9 hW0 ta1 c58
  have p60 := pre15 _ d2
  rw [c58] at p60
  have p61 := pre16
  have p62 := pre17
  have p63 := pre18
  have p64 := pre19
  have p65 := pre20
  have p66 := pre21
  have p67 := pre22
  have p68 := pre23
  have p69 := pre24
  have p70 := pre25
  obtain ⟨v71, c72⟩ : ∃ v, I0 a0 13 = v := ⟨_, rfl⟩
  have hM0 := hN _ d2
  have hO0 : FrO 14 a1 T I0 I0 := FrO.rf
  have hF := lnF_ch gB gQ gs
  have hP := lnP_ch gB gQ gs
  have p73 := p61
  unfold Q7M at p73
  replace hF := hF.neg (by exact om_b2533929 pre18)
  replace hP := hP.neg (by exact om_b2533929 pre18)
  replace hF := hF.neg (by exact om_b8b780f2 pre18)
  replace hP := hP.neg (by exact om_b8b780f2 pre18)
  replace hF := hF.neg (by exact om_9e92cd86 pre18 pre19 b47.2 b47.1 p48)
  replace hP := hP.neg (by exact om_9e92cd86 pre18 pre19 b47.2 b47.1 p48)
  replace hF := hF.neg (by exact om_c3d236a5 pre18 p65 p73)
  replace hP := hP.neg (by exact om_c3d236a5 pre18 p65 p73)
  clear p73
  obtain ⟨w74, w75, w76, w77, w78, w79, w80, w81, w82, w83, w84, w85⟩ := lnl_7 (B := gB) (Q := gQ) (s := gs) (by exact om_58805a6b p63)
  replace hF := hF.to w74 (tuF_cx gB gQ (tkN gB gs))
  replace hP := hP.to w75 (tuP_cx gB gQ (tkN gB gs))
  have kdx : tkd gB (tkN gB (tkN gB gs)) = x2.toInt := by exact om_acd7a85a p70
  replace hF := hF.neg (by exact om_e4d065d5 pre21)
  replace hP := hP.neg (by exact om_e4d065d5 pre21)
  replace hF := hF.neg (by exact om_e6f60cd2 pre22 pre23)
  replace hP := hP.neg (by exact om_e6f60cd2 pre22 pre23)
  replace hF := hF.neg (by exact om_7d0c0479 hx2.2 hx2.1 pre25)
  replace hP := hP.neg (by exact om_7d0c0479 hx2.2 hx2.1 pre25)
  refine tr_aload_n dX12_readTurner_84 hl0 ?_
  refine tr_ldcwS dX12_readTurner_85 ld12_324 ?_
  refine q_iconst dX12_readTurner_88 (by decide) ?_
  intro v86 h87
  refine tr_aload_n dX12_readTurner_89 hl0 ?_
  refine tr_getR dX12_readTurner_90 fl12_188 (kR15 hS0.1 ta0) d2 ?_
  refine q_getI dX12_readTurner_93 fl12_192 (kR14 hS0.1 ta1) c30 ?_
  refine q_iconst dX12_readTurner_96 (by decide) ?_
  intro v88 h89
  refine q_isubE dX12_readTurner_97 (by intro j1 j2 j3 j4; exact om_6479810f b31.2 b31.1 p32 w77 h89) ?_
  intro v90 h91
  refine q_callVi hE (M' := mX12_readPart) (as := [_, _, _]) dX12_readTurner_98 lk12_249 inX12_readPart seX12_readPart myX12_readPart (by decide) ⟨by decide, by decide⟩ rfl (kR15 hS0.1 ta0) (Nat.le_of_ble_eq_true rfl) rfl rfl (by decide) (by decide) (fk_X12_readPart hS0.1 (gB) ((tkN gB (tkN gB (tkN gB gs)))) ta0 (by decide) (TxA.kp hT hS0 ta0 rfl rfl rfl (by decide +kernel) (by decide +kernel)) (by (try rw [c4]); first | done | with_reducible assumption | omega) (by (try rw [c4]); first | done | with_reducible assumption | omega) (by (try rw [c9]); first | done | with_reducible assumption | omega) (by (try rw [c13]); first | done | with_reducible assumption | omega) (by (try rw [c16]); first | done | assumption) (by (try rw [c19]); first | done | assumption) (by (try rw [c22]); first | done | assumption) (by (try rw [c26]); first | done | with_reducible assumption | omega)) ?_
  rintro v97 cn' K' N' I92 R93 L94 ⟨rfl, rfl, rfl, rfl, g95, dj98, -⟩
  (try rw [pk_13] at dj98)
  have hM99 : NmM I92 R0 L0 a1 gQ := NmM.kpS hM0 g95 hS0.1 ta1 (by decide +kernel) (by decide +kernel)
  have hS100 := hS0.tr g95 (by decide +kernel) (by decide +kernel)
  have c101 : I92 a1 4 = v45 := (g95.cell ta1 (by decide +kernel)).trans c46
  have hO102 : FrO 14 a1 T I0 I92 := hO0.st g95 (by decide +kernel)
  rcases dj98 with ⟨p103, p104, p105, p106, p107, p108, p109, p110, p111, p112, p113, p114, p115, p116, gl117, -⟩ | ⟨p118, p119, p120, p121, p122, -⟩ | ⟨p123, p124, p125, p126, p127, p128, p129, -⟩ | ⟨p130, p131, p132, p133, p134, p135, p136, p137, -⟩
  · skip
    have hL138 := hL0.tr gl117 (by decide +kernel)
    have hM139 : NmM I92 R0 L94 a1 gQ := NmM.kpL hM99 gl117 hS100.1 ta1 (by decide +kernel)
    obtain ⟨v140, c141⟩ : ∃ v, I92 a0 13 = v := ⟨_, rfl⟩
    rw [c141] at p109
    rw [c72] at p109
    obtain ⟨v142, c143⟩ : ∃ v, I92 a0 9 = v := ⟨_, rfl⟩
    have b144 := iv15_9 hS100.1 ta0 c143
    rw [c143] at p110
    rw [c143] at p111
    obtain ⟨v145, c146⟩ : ∃ v, I92 a0 10 = v := ⟨_, rfl⟩
    have b147 := iv15_10 hS100.1 ta0 c146
    rw [c146] at p112
    obtain ⟨v148, c149⟩ : ∃ v, I92 a0 11 = v := ⟨_, rfl⟩
    rw [c149] at p113
    obtain ⟨y150, c151⟩ : ∃ v, L94 a0 15 = v := ⟨_, rfl⟩
    rw [c151] at p114
    obtain ⟨v152, c153⟩ : ∃ v, I92 a0 12 = v := ⟨_, rfl⟩
    rw [c153] at p115
    obtain ⟨v154, c155⟩ : ∃ v, I92 a0 8 = v := ⟨_, rfl⟩
    have b156 := iv15_8 hS100.1 ta0 c155
    rw [c155] at p116
    replace hF := hF.neg (by exact om_58a59c28 p104 p105)
    replace hP := hP.neg (by exact om_58a59c28 p104 p105)
    replace hF := hF.neg (by exact om_10ed11b5 p106)
    replace hP := hP.neg (by exact om_10ed11b5 p106)
    replace hF := hF.neg (by exact om_4062d996 p32 w77 h87 h89 h91 p107 p108)
    replace hP := hP.neg (by exact om_4062d996 p32 w77 h87 h89 h91 p107 p108)
    refine tr_istore dX12_readTurner_101 (by decide) (by decide) ?_
    refine tr_aload_n dX12_readTurner_103 hl0 ?_
    refine tr_ldcwS dX12_readTurner_104 ld12_272 ?_
    refine tr_iload dX12_readTurner_107 rfl ?_
    refine q_iconst dX12_readTurner_109 (by decide) ?_
    intro v157 h158
    refine q_iaddE dX12_readTurner_110 (by intro j1 j2 j3 j4; exact om_5e7b6990 b31.2 b31.1 p32 w77 h87 h89 h91 p103 p107 p108 h158 j2) ?_
    intro v159 h160
    refine tr_aload_n dX12_readTurner_111 hl0 ?_
    refine tr_getR dX12_readTurner_112 fl12_188 (kR15 hS100.1 ta0) d2 ?_
    refine q_getI dX12_readTurner_115 fl12_192 (kR14 hS100.1 ta1) ((hS100.cell ta1 (by decide +kernel)).trans c30) ?_
    refine q_callVi hE (M' := mX12_readPart) (as := [_, _, _]) dX12_readTurner_118 lk12_249 inX12_readPart seX12_readPart myX12_readPart (by decide) ⟨by decide, by decide⟩ rfl (kR15 hS100.1 ta0) (Nat.le_of_ble_eq_true rfl) rfl rfl (by decide) (by decide) (fk_X12_readPart hS100.1 (gB) ((tkN gB (tkN gB (tkN gB (tkN gB (tkN gB gs)))))) ta0 (by decide) (TxA.kp hT hS100 ta0 rfl rfl rfl (by decide +kernel) (by decide +kernel)) (by (try rw [c143]); first | done | with_reducible assumption | omega) (by (try rw [c143]); first | done | with_reducible assumption | omega) (by (try rw [c146]); first | done | with_reducible assumption | omega) (by (try rw [c149]); first | done | with_reducible assumption | omega) (by (try rw [c151]); first | done | assumption) (by (try rw [c153]); first | done | assumption) (by (try rw [c155]); first | done | assumption) (by (try rw [((hS100.cell ta0 (by decide +kernel)).trans c26)]); first | done | with_reducible assumption | omega)) ?_
    rintro v166 cn' K' N' I161 R162 L163 ⟨rfl, rfl, rfl, rfl, g164, dj167, -⟩
    (try rw [pk_25] at dj167)
    have hM168 : NmM I161 R0 L94 a1 gQ := NmM.kpS hM139 g164 hS100.1 ta1 (by decide +kernel) (by decide +kernel)
    have hS169 := hS100.tr g164 (by decide +kernel) (by decide +kernel)
    have c170 : I161 a1 4 = v45 := (g164.cell ta1 (by decide +kernel)).trans c101
    have hO171 : FrO 14 a1 T I0 I161 := hO102.st g164 (by decide +kernel)
    rcases dj167 with ⟨p172, p173, p174, p175, p176, p177, p178, p179, p180, p181, p182, p183, p184, p185, gl186, -⟩ | ⟨p187, p188, p189, p190, p191, -⟩ | ⟨p192, p193, p194, p195, p196, p197, p198, -⟩ | ⟨p199, p200, p201, p202, p203, p204, p205, p206, -⟩
    · skip
      have hL207 := hL138.tr gl186 (by decide +kernel)
      have hM208 : NmM I161 R0 L163 a1 gQ := NmM.kpL hM168 gl186 hS169.1 ta1 (by decide +kernel)
      obtain ⟨v209, c210⟩ : ∃ v, I161 a0 13 = v := ⟨_, rfl⟩
      rw [c210] at p178
      rw [c141] at p178
      obtain ⟨v211, c212⟩ : ∃ v, I161 a0 9 = v := ⟨_, rfl⟩
      have b213 := iv15_9 hS169.1 ta0 c212
      rw [c212] at p179
      rw [c212] at p180
      obtain ⟨v214, c215⟩ : ∃ v, I161 a0 10 = v := ⟨_, rfl⟩
      have b216 := iv15_10 hS169.1 ta0 c215
      rw [c215] at p181
      obtain ⟨v217, c218⟩ : ∃ v, I161 a0 11 = v := ⟨_, rfl⟩
      rw [c218] at p182
      obtain ⟨y219, c220⟩ : ∃ v, L163 a0 15 = v := ⟨_, rfl⟩
      rw [c220] at p183
      obtain ⟨v221, c222⟩ : ∃ v, I161 a0 12 = v := ⟨_, rfl⟩
      rw [c222] at p184
      obtain ⟨v223, c224⟩ : ∃ v, I161 a0 8 = v := ⟨_, rfl⟩
      have b225 := iv15_8 hS169.1 ta0 c224
      rw [c224] at p185
      replace hF := hF.neg (by exact om_04941ac6 p173 p174)
      replace hP := hP.neg (by exact om_04941ac6 p173 p174)
      replace hF := hF.neg (by exact om_10ed11b5 p175)
      replace hP := hP.neg (by exact om_10ed11b5 p175)
      replace hF := hF.neg (by exact om_11a1fbca p32 w77 h89 h91 p103 h158 h160 p176 p177)
      replace hP := hP.neg (by exact om_11a1fbca p32 w77 h89 h91 p103 h158 h160 p176 p177)
      refine tr_istore dX12_readTurner_121 (by decide) (by decide) ?_
      refine tr_aload_n dX12_readTurner_123 hl0 ?_
      refine tr_ldcwS dX12_readTurner_124 ld12_325 ?_
      refine q_iconst dX12_readTurner_127 (by decide) ?_
      intro v226 h227
      refine q_bipush dX12_readTurner_128 (by decide +kernel) ?_
      intro v228 h229
      refine q_callVi hE (M' := mX12_readPart) (as := [_, _, _]) dX12_readTurner_130 lk12_249 inX12_readPart seX12_readPart myX12_readPart (by decide) ⟨by decide, by decide⟩ rfl (kR15 hS169.1 ta0) (Nat.le_of_ble_eq_true rfl) rfl rfl (by decide) (by decide) (fk_X12_readPart hS169.1 (gB) ((tkN gB (tkN gB (tkN gB (tkN gB (tkN gB (tkN gB (tkN gB gs)))))))) ta0 (by decide) (TxA.kp hT hS169 ta0 rfl rfl rfl (by decide +kernel) (by decide +kernel)) (by (try rw [c212]); first | done | with_reducible assumption | omega) (by (try rw [c212]); first | done | with_reducible assumption | omega) (by (try rw [c215]); first | done | with_reducible assumption | omega) (by (try rw [c218]); first | done | with_reducible assumption | omega) (by (try rw [c220]); first | done | assumption) (by (try rw [c222]); first | done | assumption) (by (try rw [c224]); first | done | assumption) (by (try rw [((hS169.cell ta0 (by decide +kernel)).trans c26)]); first | done | with_reducible assumption | omega)) ?_
      rintro v235 cn' K' N' I230 R231 L232 ⟨rfl, rfl, rfl, rfl, g233, dj236, -⟩
      (try rw [pk_14] at dj236)
      have hM237 : NmM I230 R0 L163 a1 gQ := NmM.kpS hM208 g233 hS169.1 ta1 (by decide +kernel) (by decide +kernel)
      have hS238 := hS169.tr g233 (by decide +kernel) (by decide +kernel)
      have c239 : I230 a1 4 = v45 := (g233.cell ta1 (by decide +kernel)).trans c170
      have hO240 : FrO 14 a1 T I0 I230 := hO171.st g233 (by decide +kernel)
      rcases dj236 with ⟨p241, p242, p243, p244, p245, p246, p247, p248, p249, p250, p251, p252, p253, p254, gl255, -⟩ | ⟨p256, p257, p258, p259, p260, -⟩ | ⟨p261, p262, p263, p264, p265, p266, p267, -⟩ | ⟨p268, p269, p270, p271, p272, p273, p274, p275, -⟩
      · skip
        have hL276 := hL207.tr gl255 (by decide +kernel)
        have hM277 : NmM I230 R0 L232 a1 gQ := NmM.kpL hM237 gl255 hS238.1 ta1 (by decide +kernel)
        obtain ⟨v278, c279⟩ : ∃ v, I230 a0 13 = v := ⟨_, rfl⟩
        rw [c279] at p247
        rw [c210] at p247
        obtain ⟨v280, c281⟩ : ∃ v, I230 a0 9 = v := ⟨_, rfl⟩
        have b282 := iv15_9 hS238.1 ta0 c281
        rw [c281] at p248
        rw [c281] at p249
        obtain ⟨v283, c284⟩ : ∃ v, I230 a0 10 = v := ⟨_, rfl⟩
        have b285 := iv15_10 hS238.1 ta0 c284
        rw [c284] at p250
        obtain ⟨v286, c287⟩ : ∃ v, I230 a0 11 = v := ⟨_, rfl⟩
        rw [c287] at p251
        obtain ⟨y288, c289⟩ : ∃ v, L232 a0 15 = v := ⟨_, rfl⟩
        rw [c289] at p252
        obtain ⟨v290, c291⟩ : ∃ v, I230 a0 12 = v := ⟨_, rfl⟩
        rw [c291] at p253
        obtain ⟨v292, c293⟩ : ∃ v, I230 a0 8 = v := ⟨_, rfl⟩
        have b294 := iv15_8 hS238.1 ta0 c293
        rw [c293] at p254
        replace hF := hF.neg (by exact om_6653c81a p242 p243)
        replace hP := hP.neg (by exact om_6653c81a p242 p243)
        replace hF := hF.neg (by exact om_10ed11b5 p244)
        replace hP := hP.neg (by exact om_10ed11b5 p244)
        replace hF := hF.neg (by exact om_f00d4b50 h227 h229 p245 p246)
        replace hP := hP.neg (by exact om_f00d4b50 h227 h229 p245 p246)
        refine tr_istore dX12_readTurner_133 (by decide) (by decide) ?_
        refine tr_aload_n dX12_readTurner_135 hl0 ?_
        refine tr_ldcwS dX12_readTurner_136 ld12_327 ?_
        refine q_iconst dX12_readTurner_139 (by decide) ?_
        intro v295 h296
        refine q_bipush dX12_readTurner_140 (by decide +kernel) ?_
        intro v297 h298
        refine q_callVi hE (M' := mX12_readPart) (as := [_, _, _]) dX12_readTurner_142 lk12_249 inX12_readPart seX12_readPart myX12_readPart (by decide) ⟨by decide, by decide⟩ rfl (kR15 hS238.1 ta0) (Nat.le_of_ble_eq_true rfl) rfl rfl (by decide) (by decide) (fk_X12_readPart hS238.1 (gB) ((tkN gB (tkN gB (tkN gB (tkN gB (tkN gB (tkN gB (tkN gB (tkN gB (tkN gB gs)))))))))) ta0 (by decide) (TxA.kp hT hS238 ta0 rfl rfl rfl (by decide +kernel) (by decide +kernel)) (by (try rw [c281]); first | done | with_reducible assumption | omega) (by (try rw [c281]); first | done | with_reducible assumption | omega) (by (try rw [c284]); first | done | with_reducible assumption | omega) (by (try rw [c287]); first | done | with_reducible assumption | omega) (by (try rw [c289]); first | done | assumption) (by (try rw [c291]); first | done | assumption) (by (try rw [c293]); first | done | assumption) (by (try rw [((hS238.cell ta0 (by decide +kernel)).trans c26)]); first | done | with_reducible assumption | omega)) ?_
        rintro v304 cn' K' N' I299 R300 L301 ⟨rfl, rfl, rfl, rfl, g302, dj305, -⟩
        (try rw [pk_24] at dj305)
        have hM306 : NmM I299 R0 L232 a1 gQ := NmM.kpS hM277 g302 hS238.1 ta1 (by decide +kernel) (by decide +kernel)
        have hS307 := hS238.tr g302 (by decide +kernel) (by decide +kernel)
        have c308 : I299 a1 4 = v45 := (g302.cell ta1 (by decide +kernel)).trans c239
        have hO309 : FrO 14 a1 T I0 I299 := hO240.st g302 (by decide +kernel)
        rcases dj305 with ⟨p310, p311, p312, p313, p314, p315, p316, p317, p318, p319, p320, p321, p322, p323, gl324, -⟩ | ⟨p325, p326, p327, p328, p329, -⟩ | ⟨p330, p331, p332, p333, p334, p335, p336, -⟩ | ⟨p337, p338, p339, p340, p341, p342, p343, p344, -⟩
        · skip
          have hL345 := hL276.tr gl324 (by decide +kernel)
          have hM346 : NmM I299 R0 L301 a1 gQ := NmM.kpL hM306 gl324 hS307.1 ta1 (by decide +kernel)
          obtain ⟨v347, c348⟩ : ∃ v, I299 a0 13 = v := ⟨_, rfl⟩
          rw [c348] at p316
          rw [c279] at p316
          obtain ⟨v349, c350⟩ : ∃ v, I299 a0 9 = v := ⟨_, rfl⟩
          have b351 := iv15_9 hS307.1 ta0 c350
          rw [c350] at p317
          rw [c350] at p318
          obtain ⟨v352, c353⟩ : ∃ v, I299 a0 10 = v := ⟨_, rfl⟩
          have b354 := iv15_10 hS307.1 ta0 c353
          rw [c353] at p319
          obtain ⟨v355, c356⟩ : ∃ v, I299 a0 11 = v := ⟨_, rfl⟩
          rw [c356] at p320
          obtain ⟨y357, c358⟩ : ∃ v, L301 a0 15 = v := ⟨_, rfl⟩
          rw [c358] at p321
          obtain ⟨v359, c360⟩ : ∃ v, I299 a0 12 = v := ⟨_, rfl⟩
          rw [c360] at p322
          obtain ⟨v361, c362⟩ : ∃ v, I299 a0 8 = v := ⟨_, rfl⟩
          have b363 := iv15_8 hS307.1 ta0 c362
          rw [c362] at p323
          replace hF := hF.neg (by exact om_f8dd5453 p311 p312)
          replace hP := hP.neg (by exact om_f8dd5453 p311 p312)
          replace hF := hF.neg (by exact om_10ed11b5 p313)
          replace hP := hP.neg (by exact om_10ed11b5 p313)
          replace hF := hF.neg (by exact om_5fe05eab h296 h298 p314 p315)
          replace hP := hP.neg (by exact om_5fe05eab h296 h298 p314 p315)
          refine tr_istore dX12_readTurner_145 (by decide) (by decide) ?_
          refine tr_aload_n dX12_readTurner_147 hl0 ?_
          refine tr_ldcS dX12_readTurner_148 ld12_253 ?_
          refine q_callVv hE (M' := mX12_needs) (as := [_]) dX12_readTurner_150 lk12_157 inX12_needs seX12_needs myX12_needs (by decide) ⟨by decide, by decide⟩ rfl (kR15 hS307.1 ta0) (Nat.le_of_ble_eq_true rfl) rfl rfl (by decide) (by decide) (fk_X12_needs hS307.1 (gB) ((tkN gB (tkN gB (tkN gB (tkN gB (tkN gB (tkN gB (tkN gB (tkN gB (tkN gB (tkN gB (tkN gB gs)))))))))))) ta0 (by decide) (TxA.kp hT hS307 ta0 rfl rfl rfl (by decide +kernel) (by decide +kernel)) (by (try rw [c350]); first | done | with_reducible assumption | omega) (by (try rw [c350]); first | done | with_reducible assumption | omega) (by (try rw [c353]); first | done | with_reducible assumption | omega) (by (try rw [c356]); first | done | with_reducible assumption | omega) (by (try rw [c358]); first | done | assumption) (by (try rw [c360]); first | done | assumption) (by (try rw [c362]); first | done | assumption) (by (try rw [((hS307.cell ta0 (by decide +kernel)).trans c26)]); first | done | with_reducible assumption | omega)) ?_
          rintro cn' K' N' I364 R365 L366 ⟨rfl, rfl, rfl, rfl, g367, dj370, -⟩
          (try rw [pk_16] at dj370)
          have hM371 : NmM I364 R0 L301 a1 gQ := NmM.kpS hM346 g367 hS307.1 ta1 (by decide +kernel) (by decide +kernel)
          have hS372 := hS307.tr g367 (by decide +kernel) (by decide +kernel)
          have c373 : I364 a1 4 = v45 := (g367.cell ta1 (by decide +kernel)).trans c308
          have hO374 : FrO 14 a1 T I0 I364 := hO309.st g367 (by decide +kernel)
          rcases dj370 with ⟨p375, p376, p377, p378, p379, p380, p381, p382, p383, p384, gl385, -⟩ | ⟨p386, p387, p388, p389, -⟩
          · skip
            have hL390 := hL345.tr gl385 (by decide +kernel)
            have hM391 : NmM I364 R0 L366 a1 gQ := NmM.kpL hM371 gl385 hS372.1 ta1 (by decide +kernel)
            obtain ⟨v392, c393⟩ : ∃ v, I364 a0 13 = v := ⟨_, rfl⟩
            rw [c393] at p377
            rw [c348] at p377
            obtain ⟨v394, c395⟩ : ∃ v, I364 a0 9 = v := ⟨_, rfl⟩
            have b396 := iv15_9 hS372.1 ta0 c395
            rw [c395] at p378
            rw [c395] at p379
            obtain ⟨v397, c398⟩ : ∃ v, I364 a0 10 = v := ⟨_, rfl⟩
            have b399 := iv15_10 hS372.1 ta0 c398
            rw [c398] at p380
            obtain ⟨v400, c401⟩ : ∃ v, I364 a0 11 = v := ⟨_, rfl⟩
            rw [c401] at p381
            obtain ⟨y402, c403⟩ : ∃ v, L366 a0 15 = v := ⟨_, rfl⟩
            rw [c403] at p382
            obtain ⟨v404, c405⟩ : ∃ v, I364 a0 12 = v := ⟨_, rfl⟩
            rw [c405] at p383
            obtain ⟨v406, c407⟩ : ∃ v, I364 a0 8 = v := ⟨_, rfl⟩
            have b408 := iv15_8 hS372.1 ta0 c407
            rw [c407] at p384
            replace hF := hF.neg (by exact om_775460f3 p375 p376)
            replace hP := hP.neg (by exact om_775460f3 p375 p376)
            refine q_iconst dX12_readTurner_153 (by decide) ?_
            intro v409 h410
            refine tr_istore dX12_readTurner_154 (by decide) (by decide) ?_
            refine q_iconst dX12_readTurner_156 (by decide) ?_
            intro v411 h412
            refine tr_istore dX12_readTurner_157 (by decide) (by decide) ?_
            have lp466 : ∀ (fu : Nat) (ls : Nat → Option Value) (v413 : Int32) (v414 : Int32) (I424 : cz_I) (L425 : cz_L) (gs426 : Int) (gr427 : Nat) (gh428 : Int) (v433 : Int32) (v435 : Int32) (v437 : Int32) (v439 : Int32) (v441 : Int32) (y443 : Int64) (v445 : Int32) (v447 : Int32), ls 0 = some (.ref a0) → ls 1 = some (.long y1) → ls 3 = some (.int x2) → ls 4 = some (.int v97) → ls 5 = some (.int v166) → ls 6 = some (.int v235) → ls 7 = some (.int v304) → ls 8 = some (.int v413) → ls 9 = some (.int v414) → St T cn K N 0 wif_tuL wrf_tuL I0 R0 I424 R0 → LgS T wlf_tuL L0 L425 → NmM I424 R0 L425 a1 gQ → FrO 14 a1 T I0 I424 → I424 a0 13 = v433 → I424 a1 4 = v435 → I424 a0 9 = v437 → I424 a0 10 = v439 → I424 a0 11 = v441 → L425 a0 15 = y443 → I424 a0 12 = v445 → I424 a0 8 = v447 → (huF gB gQ gr427 gh428 gs426) = (huF gB gQ 901 0 (tkN gB (tkN gB (tkN gB (tkN gB (tkN gB (tkN gB (tkN gB (tkN gB (tkN gB (tkN gB (tkN gB (tkN gB gs))))))))))))) → (huP gB gQ gr427 gh428 gs426) = (huP gB gQ 901 0 (tkN gB (tkN gB (tkN gB (tkN gB (tkN gB (tkN gB (tkN gB (tkN gB (tkN gB (tkN gB (tkN gB (tkN gB gs))))))))))))) → (huS gB gQ gr427 gh428 gs426) = (huS gB gQ 901 0 (tkN gB (tkN gB (tkN gB (tkN gB (tkN gB (tkN gB (tkN gB (tkN gB (tkN gB (tkN gB (tkN gB (tkN gB gs))))))))))))) → v435.toInt = (gQ 4) → v414.toInt = 1 → v413.toInt = (gh428) → (gh428) ≥ 0 → (gh428) ≤ 15 → ((gr427 : Int)) + v439.toInt ≥ 901 → v433.toInt = v71.toInt → v437.toInt = (tkM gB gs426) → v437.toInt ≤ 4 → v439.toInt = (tkS gB gs426) → v441.toInt = (tkG gB gs426) → (AtW ((tkK gB gs426)) (y443.toInt) ((tkW gB gs426))) → (AtV ((tkK gB gs426)) (v445.toInt) ((tkV gB gs426))) → (AtN ((tkK gB gs426)) (v447.toInt) ((tkN gB gs426))) → (-v439.toInt + 900).toNat < fu → Tr X mX12_readTurner 159 ls [] cn K N I424 R0 L425 0 0 := by
              intro fu
              induction fu with
              | zero => intros; rename_i hz; exact absurd hz (Nat.not_lt_zero _)
              | succ fu ih466 =>
                intro ls v413 v414 I424 L425 gs426 gr427 gh428 v433 v435 v437 v439 v441 y443 v445 v447 hl415 hl416 hl417 hl418 hl419 hl420 hl421 hl422 hl423 hS429 hL430 hM431 hO432 c434 c436 c438 c440 c442 c444 c446 c448 g449 g450 g451 g452 g453 g454 g455 g456 g457 g458 g459 g460 g461 g462 g463 g464 g465 hm466
                have b468 := iv14_4 hS429.1 ta1 c436
                have b469 := iv15_9 hS429.1 ta0 c438
                have b470 := iv15_10 hS429.1 ta0 c440
                have b471 := iv15_8 hS429.1 ta0 c448
                rcases Nat.eq_zero_or_pos gr427 with hz472 | hz472
                · skip
                  subst hz472
                  exfalso; exact om_71ebda56 g461 b470.2 b470.1 g457
                · skip
                  obtain ⟨gk473, rfl⟩ : ∃ k, gr427 = k + 1 := ⟨gr427 - 1, by exact om_dc97010f hz472⟩
                  refine tr_iload dX12_readTurner_159 hl423 ?_
                  refine q_if_eq 227 dX12_readTurner_161 (by decide) (fun h474 => ?_) (fun h474 => ?_)
                  · skip
                    exfalso; exact om_3624102b g453 h474
                  · skip
                    refine tr_aload_n dX12_readTurner_164 hl415 ?_
                    refine q_getI dX12_readTurner_165 fl12_99 (kR15 hS429.1 ta0) c438 ?_
                    refine q_iconst dX12_readTurner_168 (by decide) ?_
                    intro v475 h476
                    refine q_icmp_eq 227 dX12_readTurner_169 (by decide) (fun h477 => ?_) (fun h477 => ?_)
                    · skip
                      exfalso; exact om_590814ed g459 g460 b469.1 h476 h477
                    · skip
                      refine tr_aload_n dX12_readTurner_172 hl415 ?_
                      refine q_iconst dX12_readTurner_173 (by decide) ?_
                      intro v478 h479
                      refine tr_aload_n dX12_readTurner_174 hl415 ?_
                      refine tr_getR dX12_readTurner_175 fl12_188 (kR15 hS429.1 ta0) d2 ?_
                      refine q_getI dX12_readTurner_178 fl12_263 (kR14 hS429.1 ta1) ((hS429.cell ta1 (by decide +kernel)).trans c34) ?_
                      refine q_iconst dX12_readTurner_181 (by decide) ?_
                      intro v480 h481
                      refine q_isubE dX12_readTurner_182 (by intro j1 j2 j3 j4; exact om_99c1ed93 b35.2 b35.1 p36 w78 h481) ?_
                      intro v482 h483
                      refine q_callVi hE (M' := mX12_bounded) (as := [_, _]) dX12_readTurner_183 lk12_153 inX12_bounded seX12_bounded myX12_bounded (by decide) ⟨by decide, by decide⟩ rfl (kR15 hS429.1 ta0) (Nat.le_of_ble_eq_true rfl) rfl rfl (by decide) (by decide) (fk_X12_bounded hS429.1 (gB) (gs426) ta0 (by (try rw [c438]); first | done | with_reducible assumption | omega) (by (try rw [c438]); first | done | with_reducible assumption | omega) (by (try rw [c440]); first | done | with_reducible assumption | omega) (by (try rw [c442]); first | done | with_reducible assumption | omega) (by (try rw [c444]); first | done | assumption) (by (try rw [c446]); first | done | assumption) (by (try rw [c448]); first | done | assumption)) ?_
                      rintro v489 cn' K' N' I484 R485 L486 ⟨rfl, rfl, rfl, rfl, rfl, g487, dj490, -⟩
                      have hM491 : NmM I484 R0 L425 a1 gQ := NmM.kpS hM431 g487 hS429.1 ta1 (by decide +kernel) (by decide +kernel)
                      have hS492 := hS429.tr g487 (by decide +kernel) (by decide +kernel)
                      have c493 : I484 a1 4 = v435 := (g487.cell ta1 (by decide +kernel)).trans c436
                      have c494 : I484 a0 10 = v439 := (g487.cell ta0 (by decide +kernel)).trans c440
                      have c495 : I484 a0 11 = v441 := (g487.cell ta0 (by decide +kernel)).trans c442
                      have c496 : I484 a0 12 = v445 := (g487.cell ta0 (by decide +kernel)).trans c446
                      have c497 : I484 a0 8 = v447 := (g487.cell ta0 (by decide +kernel)).trans c448
                      have hO498 : FrO 14 a1 T I0 I484 := hO432.st g487 (by decide +kernel)
                      rcases dj490 with ⟨p499, p500, p501, p502, p503, p504, p505, p506, p507, p508, p509, p510, -⟩ | ⟨p511, p512, p513, p514, p515, -⟩ | ⟨p516, p517, p518, p519, p520, p521, -⟩
                      · skip
                        obtain ⟨v522, c523⟩ : ∃ v, I484 a0 13 = v := ⟨_, rfl⟩
                        rw [c523] at p503
                        rw [c434] at p503
                        obtain ⟨v524, c525⟩ : ∃ v, I484 a0 9 = v := ⟨_, rfl⟩
                        have b526 := iv15_9 hS492.1 ta0 c525
                        rw [c525] at p504
                        rw [c525] at p505
                        rw [c494] at p506
                        rw [c495] at p507
                        rw [c444] at p508
                        rw [c496] at p509
                        rw [c497] at p510
                        refine tr_istore dX12_readTurner_186 (by decide) (by decide) ?_
                        refine tr_iload dX12_readTurner_188 hl422 ?_
                        refine tr_iload dX12_readTurner_190 rfl ?_
                        refine q_callSi hE (M' := mX12_has) (as := [_, _]) dX12_readTurner_192 lk12_329 inX12_has myX12_has ⟨by decide, by decide⟩ rfl (Nat.le_of_ble_eq_true rfl) rfl rfl (by decide) (by decide) (f_X12_has   (by exact om_d753a46c g454 g455 g456) (by exact om_fe604db5 b35.2 b35.1 p36 w78 h479 h481 h483 p499 p501 p502)) ?_
                        rintro v532 cn' K' N' I527 R528 L529 ⟨rfl, rfl, rfl, rfl, rfl, rfl, h533, p534, -⟩
                        rw [show v413.toInt = gh428 by exact om_acd7a85a g454, show v489.toInt = tkV gB gs426 by exact om_acd7a85a p499] at p534
                        refine q_if_eq 203 dX12_readTurner_195 (by decide) (fun h535 => ?_) (fun h535 => ?_)
                        · skip
                          refine tr_aload_n dX12_readTurner_203 hl415 ?_
                          have p536 := p510 (by exact om_cab07503 p500)
                          refine q_callVv hE (M' := mX12_goesOn) (as := []) dX12_readTurner_204 lk12_142 inX12_goesOn seX12_goesOn myX12_goesOn (by decide) ⟨by decide, by decide⟩ rfl (kR15 hS492.1 ta0) (Nat.le_of_ble_eq_true rfl) rfl rfl (by decide) (by decide) (fk_X12_goesOn hS492.1 (gB) ((tkN gB gs426)) ta0 (TxA.kp hT hS492 ta0 rfl rfl rfl (by decide +kernel) (by decide +kernel)) (by (try rw [c497]); first | done | with_reducible assumption | omega) (by (try rw [((hS492.cell ta0 (by decide +kernel)).trans c26)]); first | done | with_reducible assumption | omega) (by (try rw [c525]); first | done | with_reducible assumption | exact om_25eaf917 g459 g460 b469.1 p504)) ?_
                          rintro cn' K' N' I537 R538 L539 ⟨rfl, rfl, rfl, rfl, g540, gl541, p543, p544, p545, p546, p547, p548, p549, -⟩
                          have hM550 : NmM I537 R0 L425 a1 gQ := NmM.kpS hM491 g540 hS492.1 ta1 (by decide +kernel) (by decide +kernel)
                          have hS551 := hS492.tr g540 (by decide +kernel) (by decide +kernel)
                          have c552 : I537 a1 4 = v435 := (g540.cell ta1 (by decide +kernel)).trans c493
                          have c553 : I537 a0 13 = v522 := (g540.cell ta0 (by decide +kernel)).trans c523
                          have hO554 : FrO 14 a1 T I0 I537 := hO498.st g540 (by decide +kernel)
                          have hL555 := hL430.tr gl541 (by decide +kernel)
                          have hM556 : NmM I537 R0 L539 a1 gQ := NmM.kpL hM550 gl541 hS551.1 ta1 (by decide +kernel)
                          obtain ⟨v557, c558⟩ : ∃ v, I537 a0 9 = v := ⟨_, rfl⟩
                          have b559 := iv15_9 hS551.1 ta0 c558
                          rw [c558] at p543
                          rw [c558] at p544
                          obtain ⟨v560, c561⟩ : ∃ v, I537 a0 10 = v := ⟨_, rfl⟩
                          have b562 := iv15_10 hS551.1 ta0 c561
                          rw [c561] at p545
                          obtain ⟨v563, c564⟩ : ∃ v, I537 a0 11 = v := ⟨_, rfl⟩
                          rw [c564] at p546
                          obtain ⟨y565, c566⟩ : ∃ v, L539 a0 15 = v := ⟨_, rfl⟩
                          rw [c566] at p547
                          obtain ⟨v567, c568⟩ : ∃ v, I537 a0 12 = v := ⟨_, rfl⟩
                          rw [c568] at p548
                          obtain ⟨v569, c570⟩ : ∃ v, I537 a0 8 = v := ⟨_, rfl⟩
                          have b571 := iv15_8 hS551.1 ta0 c570
                          rw [c570] at p549
                          refine tr_iload dX12_readTurner_207 hl422 ?_
                          refine q_iconst dX12_readTurner_209 (by decide) ?_
                          intro v572 h573
                          refine tr_iload dX12_readTurner_210 rfl ?_
                          refine tr_ishl dX12_readTurner_212 ?_
                          refine tr_ior dX12_readTurner_213 ?_
                          obtain ⟨v574, lx575⟩ : ∃ z, z = v413 ||| (v572 <<< (v489 &&& 31)) := ⟨_, rfl⟩
                          rw [← lx575]
                          have p576 : v574.toInt = gh428 + pw (tkV gB gs426) ∧ gh428 + pw (tkV gB gs426) ≤ 15 := by rw [lx575, show gh428 = v413.toInt by exact om_7847aadf g454, show tkV gB gs426 = v489.toInt by exact om_7847aadf p499]; exact hut_or (by exact om_d753a46c g454 g455 g456) (by exact om_fe604db5 b35.2 b35.1 p36 w78 h479 h481 h483 p499 p501 p502) (by exact om_ee8a1e2d h573) (by rw [show v413.toInt = gh428 by exact om_acd7a85a g454, show v489.toInt = tkV gB gs426 by exact om_acd7a85a p499]; exact om_eca32e87 p534 h535)
                          have p5760 := pw_pos (tkV gB gs426)
                          refine tr_istore dX12_readTurner_214 (by decide) (by decide) ?_
                          refine tr_aload_n dX12_readTurner_216 hl415 ?_
                          refine q_bipush dX12_readTurner_217 (by decide +kernel) ?_
                          intro v577 h578
                          refine q_callVi hE (M' := mX12_eatsSign) (as := [_]) dX12_readTurner_219 lk12_221 inX12_eatsSign seX12_eatsSign myX12_eatsSign (by decide) ⟨by decide, by decide⟩ rfl (kR15 hS551.1 ta0) (Nat.le_of_ble_eq_true rfl) rfl rfl (by decide) (by decide) (fk_X12_eatsSign hS551.1 (gB) ((tkN gB gs426)) ta0 (TxA.kp hT hS551 ta0 rfl rfl rfl (by decide +kernel) (by decide +kernel)) (by (try rw [c558]); first | done | with_reducible assumption | omega) (by (try rw [c558]); first | done | with_reducible assumption | omega) (by (try rw [c561]); first | done | with_reducible assumption | omega) (by (try rw [c564]); first | done | with_reducible assumption | omega) (by (try rw [c566]); first | done | assumption) (by (try rw [c568]); first | done | assumption) (by (try rw [c570]); first | done | assumption) (by (try rw [((hS551.cell ta0 (by decide +kernel)).trans c26)]); first | done | with_reducible assumption | omega) (by first | done | with_reducible assumption | exact om_00f2e567 h578)) ?_
                          rintro v584 cn' K' N' I579 R580 L581 ⟨rfl, rfl, rfl, rfl, g582, gl583, h585, dj586, -⟩
                          have hM587 : NmM I579 R0 L539 a1 gQ := NmM.kpS hM556 g582 hS551.1 ta1 (by decide +kernel) (by decide +kernel)
                          have hS588 := hS551.tr g582 (by decide +kernel) (by decide +kernel)
                          have c589 : I579 a1 4 = v435 := (g582.cell ta1 (by decide +kernel)).trans c552
                          have c590 : I579 a0 13 = v522 := (g582.cell ta0 (by decide +kernel)).trans c553
                          have hO591 : FrO 14 a1 T I0 I579 := hO554.st g582 (by decide +kernel)
                          have hL592 := hL555.tr gl583 (by decide +kernel)
                          have hM593 : NmM I579 R0 L581 a1 gQ := NmM.kpL hM587 gl583 hS588.1 ta1 (by decide +kernel)
                          rcases dj586 with ⟨p594, p595, p596, p597, p598, p599, p600, p601, p602, p603, -⟩ | ⟨p604, p605, p606, p607, p608, p609, p610, p611, p612, p613, -⟩
                          · skip
                            rw [c590] at p596
                            rw [c553] at p596
                            obtain ⟨v614, c615⟩ : ∃ v, I579 a0 9 = v := ⟨_, rfl⟩
                            have b616 := iv15_9 hS588.1 ta0 c615
                            rw [c615] at p597
                            rw [c615] at p598
                            obtain ⟨v617, c618⟩ : ∃ v, I579 a0 10 = v := ⟨_, rfl⟩
                            have b619 := iv15_10 hS588.1 ta0 c618
                            rw [c618] at p599
                            obtain ⟨v620, c621⟩ : ∃ v, I579 a0 11 = v := ⟨_, rfl⟩
                            rw [c621] at p600
                            obtain ⟨y622, c623⟩ : ∃ v, L581 a0 15 = v := ⟨_, rfl⟩
                            rw [c623] at p601
                            obtain ⟨v624, c625⟩ : ∃ v, I579 a0 12 = v := ⟨_, rfl⟩
                            rw [c625] at p602
                            obtain ⟨v626, c627⟩ : ∃ v, I579 a0 8 = v := ⟨_, rfl⟩
                            have b628 := iv15_8 hS588.1 ta0 c627
                            rw [c627] at p603
                            refine tr_istore dX12_readTurner_222 (by decide) (by decide) ?_
                            refine tr_goto 159 dX12_readTurner_224 (by decide) ?_
                            have q1 := tkS_nx gB gs426 (by exact om_e6b7f10b p500)
                            have q2 := tkS_nx gB (tkN gB gs426) (by exact om_ac01260c h578 p595)
                            exact ih466 _ v574 v584 I579 L581 ((tkN gB (tkN gB gs426))) (gk473) ((gh428 + pw (tkV gB gs426))) v522 v435 v614 v617 v620 y622 v624 v626 hl415 hl416 hl417 hl418 hl419 hl420 hl421 rfl rfl hS588 hL592 hM593 hO591 c590 c589 c615 c618 c621 c623 c625 c627 (by rw [← g449]; simp only [huF, ↓reduceIte]; exact om_8c7adbd5 p36 w78 h479 h481 h483 p500 p501 p502 p534 h535 h578 p595) (by rw [← g450]; simp only [huP, ↓reduceIte]; exact om_9500e785 p36 w78 h479 h481 h483 p500 p501 p502 p534 h535 h578 p595) (by rw [← g451]; simp only [huS, ↓reduceIte]; exact om_20d81f82 h578 p595) (by exact om_acd7a85a g452) (by exact om_ee8a1e2d p594) (by exact om_82f20683 p576.1) (by exact om_d3e2b145 g455 g456 p576.1 p5760) (by exact om_d3a46a98 p576.1 p576.2) (by have q1 := tkS_nx gB gs426 (by exact om_e6b7f10b p500); have q2 := tkS_nx gB (tkN gB gs426) (by exact om_ac01260c h578 p595); omega) (by exact om_8ebee7bb p109 p178 p247 p316 p377 g458 p503) (by exact om_acd7a85a p597) (by exact om_fc4b6669 p598) (by exact om_acd7a85a p599) (by exact om_acd7a85a p600) (by assumption) (by assumption) (by assumption) (by exact om_b16e0bb2 g453 g459 g460 g461 hm466 b469.1 b470.2 b470.1 h474 h476 h477 p504 p545 b562.2 b562.1 p599 q1 q2)
                          · skip
                            rw [c590] at p606
                            rw [c553] at p606
                            obtain ⟨v629, c630⟩ : ∃ v, I579 a0 9 = v := ⟨_, rfl⟩
                            have b631 := iv15_9 hS588.1 ta0 c630
                            rw [c630] at p607
                            rw [c630] at p608
                            obtain ⟨v632, c633⟩ : ∃ v, I579 a0 10 = v := ⟨_, rfl⟩
                            have b634 := iv15_10 hS588.1 ta0 c633
                            rw [c633] at p609
                            obtain ⟨v635, c636⟩ : ∃ v, I579 a0 11 = v := ⟨_, rfl⟩
                            rw [c636] at p610
                            obtain ⟨y637, c638⟩ : ∃ v, L581 a0 15 = v := ⟨_, rfl⟩
                            rw [c638] at p611
                            obtain ⟨v639, c640⟩ : ∃ v, I579 a0 12 = v := ⟨_, rfl⟩
                            rw [c640] at p612
                            obtain ⟨v641, c642⟩ : ∃ v, I579 a0 8 = v := ⟨_, rfl⟩
                            have b643 := iv15_8 hS588.1 ta0 c642
                            rw [c642] at p613
                            refine tr_istore dX12_readTurner_222 (by decide) (by decide) ?_
                            refine tr_goto 159 dX12_readTurner_224 (by decide) ?_
                            refine tr_iload dX12_readTurner_159 rfl ?_
                            refine q_if_eq 227 dX12_readTurner_161 (by decide) (fun h644 => ?_) (fun h644 => ?_)
                            · skip
                              refine tr_aload_n dX12_readTurner_227 hl415 ?_
                              refine q_getI dX12_readTurner_228 fl12_99 (kR15 hS588.1 ta0) c630 ?_
                              refine q_iconst dX12_readTurner_231 (by decide) ?_
                              intro v645 h646
                              refine q_icmp_ne 236 dX12_readTurner_232 (by decide) (fun h647 => ?_) (fun h647 => ?_)
                              · skip
                                refine tr_aload_n dX12_readTurner_236 hl415 ?_
                                refine tr_getR dX12_readTurner_237 fl12_188 (kR15 hS588.1 ta0) d2 ?_
                                refine q_getI dX12_readTurner_240 fl12_315 (kR14 hS588.1 ta1) c589 ?_
                                refine tr_istore dX12_readTurner_243 (by decide) (by decide) ?_
                                refine tr_aload_n dX12_readTurner_245 hl415 ?_
                                refine tr_lload_n dX12_readTurner_246 hl416 ?_
                                refine q_iconst dX12_readTurner_247 (by decide) ?_
                                intro v648 h649
                                refine tr_iload dX12_readTurner_248 rfl ?_
                                obtain ⟨v651, c652⟩ : ∃ v, I579 a1 7 = v := ⟨_, rfl⟩
                                have b653 := iv14_7 hS588.1 ta1 c652
                                have p650 := hS588.1.2.2.2.2.1 a0 ta0 _ d2
                                rw [c652, ((hS588.cell ta1 (by decide +kernel)).trans c42), c589] at p650
                                refine q_callVv hE (M' := mX12_names) (as := [_, _, _]) dX12_readTurner_250 lk12_293 inX12_names seX12_names myX12_names (by decide) ⟨by decide, by decide⟩ rfl (kR15 hS588.1 ta0) (Nat.le_of_ble_eq_true rfl) rfl rfl (by decide) (by decide) (fk_X12_names hS588.1  ta0 (fun q0 z0 => by obtain rfl := Option.some.inj ((d2).symm.trans z0); (try rw [c652]); first | done | with_reducible assumption | exact om_71299645 pre19 b43.2 b43.1 p44 b47.2 b47.1 p48 w80 w81 g452 b653.2 b653.1 p650) ⟨_, d2⟩) ?_
                                rintro cn' K' N' I654 R655 L656 ⟨rfl, rfl, rfl, rfl, g657, gl658, rp660, rp661, -⟩
                                have hS662 := hS588.tr g657 (by decide +kernel) (by decide +kernel)
                                have c663 : I654 a1 4 = v435 := (g657.cell ta1 (by decide +kernel)).trans c589
                                have c664 : I654 a0 13 = v522 := (g657.cell ta0 (by decide +kernel)).trans c590
                                have c665 : I654 a0 9 = v629 := (g657.cell ta0 (by decide +kernel)).trans c630
                                have c666 : I654 a0 10 = v632 := (g657.cell ta0 (by decide +kernel)).trans c633
                                have c667 : I654 a0 11 = v635 := (g657.cell ta0 (by decide +kernel)).trans c636
                                have c668 : I654 a0 12 = v639 := (g657.cell ta0 (by decide +kernel)).trans c640
                                have c669 : I654 a0 8 = v641 := (g657.cell ta0 (by decide +kernel)).trans c642
                                have hO670 : FrO 14 a1 T I0 I654 := hO591.tr (rp661 _ d2)
                                have hL671 := hL592.tr gl658 (by decide +kernel)
                                have c672 : L656 a0 15 = y637 := (gl658.cell ta0 (by decide +kernel)).trans c638
                                have hM673 := NmM.up7 (B := gB) (s := (tkN gB gs)) hM593 (rp660 _ d2) (by exact om_acd7a85a p69) (by exact om_ee8a1e2d h649) (by exact om_acd7a85a g452) (by rw [c652]; exact om_2fd3e869 p44 p48 w80 w81 g452 p650) (by exact om_fc4b6669 p64) (by exact om_dd98535d p68) (by exact om_dd98535d p67)
                                refine tr_aload_n dX12_readTurner_253 hl415 ?_
                                refine tr_getR dX12_readTurner_254 fl12_188 (kR15 hS662.1 ta0) d2 ?_
                                obtain ⟨a674, d675, ta674⟩ := rf14_20 hW0 ta1
                                refine tr_getR dX12_readTurner_257 fl12_333 (kR14 hS662.1 ta1) d675 ?_
                                refine tr_iload dX12_readTurner_260 rfl ?_
                                refine tr_iload_n dX12_readTurner_262 hl417 ?_
                                refine q_iast dX12_readTurner_263 (kR63 hS662.1 ta674) (ti_in (nR63 hS662.1 ta674) (by exact om_b3c9b955 pre19 b47.2 b47.1 p48 w81 g452) (by exact om_1c92eee0 pre19 b47.2 b47.1 p48 w81 g452)) hS662 ta674 (iokF rfl) rfl (by rfl) ?_
                                intro I676 hS677 e679 f678
                                have c680 : I676 a1 4 = v435 := (f678 _ _ (fun q => by have z := ta1; rw [q.1, ta674] at z; exact absurd z (by decide))).trans c663
                                have c681 : I676 a0 13 = v522 := (f678 _ _ (fun q => by have z := ta0; rw [q.1, ta674] at z; exact absurd z (by decide))).trans c664
                                have c682 : I676 a0 9 = v629 := (f678 _ _ (fun q => by have z := ta0; rw [q.1, ta674] at z; exact absurd z (by decide))).trans c665
                                have c683 : I676 a0 10 = v632 := (f678 _ _ (fun q => by have z := ta0; rw [q.1, ta674] at z; exact absurd z (by decide))).trans c666
                                have c684 : I676 a0 11 = v635 := (f678 _ _ (fun q => by have z := ta0; rw [q.1, ta674] at z; exact absurd z (by decide))).trans c667
                                have c685 : I676 a0 12 = v639 := (f678 _ _ (fun q => by have z := ta0; rw [q.1, ta674] at z; exact absurd z (by decide))).trans c668
                                have c686 : I676 a0 8 = v641 := (f678 _ _ (fun q => by have z := ta0; rw [q.1, ta674] at z; exact absurd z (by decide))).trans c669
                                have hO687 : FrO 14 a1 T I0 I676 := hO670.put f678 ta674 (Or.inl (by decide))
                                have hM688 : NmM I676 R0 L656 a1 (bdQ gB gQ 7 (tkN gB gs)) := NmM.kp1 hM673 f678 ta674 rfl rfl hS662.1 ta1
                                refine tr_aload_n dX12_readTurner_264 hl415 ?_
                                refine tr_getR dX12_readTurner_265 fl12_188 (kR15 hS677.1 ta0) d2 ?_
                                obtain ⟨a689, d690, ta689⟩ := rf14_21 hW0 ta1
                                refine tr_getR dX12_readTurner_268 fl12_336 (kR14 hS677.1 ta1) d690 ?_
                                refine tr_iload dX12_readTurner_271 rfl ?_
                                refine tr_iload dX12_readTurner_273 hl418 ?_
                                refine q_iast dX12_readTurner_275 (kR64 hS677.1 ta689) (ti_in (nR64 hS677.1 ta689) (by exact om_b3c9b955 pre19 b47.2 b47.1 p48 w81 g452) (by exact om_1c92eee0 pre19 b47.2 b47.1 p48 w81 g452)) hS677 ta689 (iokF rfl) rfl (by rfl) ?_
                                intro I691 hS692 e694 f693
                                have c695 : I691 a1 4 = v435 := (f693 _ _ (fun q => by have z := ta1; rw [q.1, ta689] at z; exact absurd z (by decide))).trans c680
                                have c696 : I691 a0 13 = v522 := (f693 _ _ (fun q => by have z := ta0; rw [q.1, ta689] at z; exact absurd z (by decide))).trans c681
                                have c697 : I691 a0 9 = v629 := (f693 _ _ (fun q => by have z := ta0; rw [q.1, ta689] at z; exact absurd z (by decide))).trans c682
                                have c698 : I691 a0 10 = v632 := (f693 _ _ (fun q => by have z := ta0; rw [q.1, ta689] at z; exact absurd z (by decide))).trans c683
                                have c699 : I691 a0 11 = v635 := (f693 _ _ (fun q => by have z := ta0; rw [q.1, ta689] at z; exact absurd z (by decide))).trans c684
                                have c700 : I691 a0 12 = v639 := (f693 _ _ (fun q => by have z := ta0; rw [q.1, ta689] at z; exact absurd z (by decide))).trans c685
                                have c701 : I691 a0 8 = v641 := (f693 _ _ (fun q => by have z := ta0; rw [q.1, ta689] at z; exact absurd z (by decide))).trans c686
                                have hO702 : FrO 14 a1 T I0 I691 := hO687.put f693 ta689 (Or.inl (by decide))
                                have hM703 : NmM I691 R0 L656 a1 (bdQ gB gQ 7 (tkN gB gs)) := NmM.kp1 hM688 f693 ta689 rfl rfl hS677.1 ta1
                                refine tr_aload_n dX12_readTurner_276 hl415 ?_
                                refine tr_getR dX12_readTurner_277 fl12_188 (kR15 hS692.1 ta0) d2 ?_
                                obtain ⟨a704, d705, ta704⟩ := rf14_22 hW0 ta1
                                refine tr_getR dX12_readTurner_280 fl12_339 (kR14 hS692.1 ta1) d705 ?_
                                refine tr_iload dX12_readTurner_283 rfl ?_
                                refine tr_iload dX12_readTurner_285 hl419 ?_
                                refine q_iast dX12_readTurner_287 (kR65 hS692.1 ta704) (ti_in (nR65 hS692.1 ta704) (by exact om_b3c9b955 pre19 b47.2 b47.1 p48 w81 g452) (by exact om_1c92eee0 pre19 b47.2 b47.1 p48 w81 g452)) hS692 ta704 (iokF rfl) rfl (by rfl) ?_
                                intro I706 hS707 e709 f708
                                have c710 : I706 a1 4 = v435 := (f708 _ _ (fun q => by have z := ta1; rw [q.1, ta704] at z; exact absurd z (by decide))).trans c695
                                have c711 : I706 a0 13 = v522 := (f708 _ _ (fun q => by have z := ta0; rw [q.1, ta704] at z; exact absurd z (by decide))).trans c696
                                have c712 : I706 a0 9 = v629 := (f708 _ _ (fun q => by have z := ta0; rw [q.1, ta704] at z; exact absurd z (by decide))).trans c697
                                have c713 : I706 a0 10 = v632 := (f708 _ _ (fun q => by have z := ta0; rw [q.1, ta704] at z; exact absurd z (by decide))).trans c698
                                have c714 : I706 a0 11 = v635 := (f708 _ _ (fun q => by have z := ta0; rw [q.1, ta704] at z; exact absurd z (by decide))).trans c699
                                have c715 : I706 a0 12 = v639 := (f708 _ _ (fun q => by have z := ta0; rw [q.1, ta704] at z; exact absurd z (by decide))).trans c700
                                have c716 : I706 a0 8 = v641 := (f708 _ _ (fun q => by have z := ta0; rw [q.1, ta704] at z; exact absurd z (by decide))).trans c701
                                have hO717 : FrO 14 a1 T I0 I706 := hO702.put f708 ta704 (Or.inl (by decide))
                                have hM718 : NmM I706 R0 L656 a1 (bdQ gB gQ 7 (tkN gB gs)) := NmM.kp1 hM703 f708 ta704 rfl rfl hS692.1 ta1
                                refine tr_aload_n dX12_readTurner_288 hl415 ?_
                                refine tr_getR dX12_readTurner_289 fl12_188 (kR15 hS707.1 ta0) d2 ?_
                                obtain ⟨a719, d720, ta719⟩ := rf14_23 hW0 ta1
                                refine tr_getR dX12_readTurner_292 fl12_342 (kR14 hS707.1 ta1) d720 ?_
                                refine tr_iload dX12_readTurner_295 rfl ?_
                                refine tr_iload dX12_readTurner_297 hl420 ?_
                                refine q_iast dX12_readTurner_299 (kR66 hS707.1 ta719) (ti_in (nR66 hS707.1 ta719) (by exact om_b3c9b955 pre19 b47.2 b47.1 p48 w81 g452) (by exact om_1c92eee0 pre19 b47.2 b47.1 p48 w81 g452)) hS707 ta719 (iokF rfl) rfl (by rfl) ?_
                                intro I721 hS722 e724 f723
                                have c725 : I721 a1 4 = v435 := (f723 _ _ (fun q => by have z := ta1; rw [q.1, ta719] at z; exact absurd z (by decide))).trans c710
                                have c726 : I721 a0 13 = v522 := (f723 _ _ (fun q => by have z := ta0; rw [q.1, ta719] at z; exact absurd z (by decide))).trans c711
                                have c727 : I721 a0 9 = v629 := (f723 _ _ (fun q => by have z := ta0; rw [q.1, ta719] at z; exact absurd z (by decide))).trans c712
                                have c728 : I721 a0 10 = v632 := (f723 _ _ (fun q => by have z := ta0; rw [q.1, ta719] at z; exact absurd z (by decide))).trans c713
                                have c729 : I721 a0 11 = v635 := (f723 _ _ (fun q => by have z := ta0; rw [q.1, ta719] at z; exact absurd z (by decide))).trans c714
                                have c730 : I721 a0 12 = v639 := (f723 _ _ (fun q => by have z := ta0; rw [q.1, ta719] at z; exact absurd z (by decide))).trans c715
                                have c731 : I721 a0 8 = v641 := (f723 _ _ (fun q => by have z := ta0; rw [q.1, ta719] at z; exact absurd z (by decide))).trans c716
                                have hO732 : FrO 14 a1 T I0 I721 := hO717.put f723 ta719 (Or.inl (by decide))
                                have hM733 : NmM I721 R0 L656 a1 (bdQ gB gQ 7 (tkN gB gs)) := NmM.kp1 hM718 f723 ta719 rfl rfl hS707.1 ta1
                                refine tr_aload_n dX12_readTurner_300 hl415 ?_
                                refine tr_getR dX12_readTurner_301 fl12_188 (kR15 hS722.1 ta0) d2 ?_
                                obtain ⟨a734, d735, ta734⟩ := rf14_24 hW0 ta1
                                refine tr_getR dX12_readTurner_304 fl12_344 (kR14 hS722.1 ta1) d735 ?_
                                refine tr_iload dX12_readTurner_307 rfl ?_
                                refine tr_iload dX12_readTurner_309 hl421 ?_
                                refine q_iast dX12_readTurner_311 (kR67 hS722.1 ta734) (ti_in (nR67 hS722.1 ta734) (by exact om_b3c9b955 pre19 b47.2 b47.1 p48 w81 g452) (by exact om_1c92eee0 pre19 b47.2 b47.1 p48 w81 g452)) hS722 ta734 (iokF rfl) rfl (by rfl) ?_
                                intro I736 hS737 e739 f738
                                have c740 : I736 a1 4 = v435 := (f738 _ _ (fun q => by have z := ta1; rw [q.1, ta734] at z; exact absurd z (by decide))).trans c725
                                have c741 : I736 a0 13 = v522 := (f738 _ _ (fun q => by have z := ta0; rw [q.1, ta734] at z; exact absurd z (by decide))).trans c726
                                have c742 : I736 a0 9 = v629 := (f738 _ _ (fun q => by have z := ta0; rw [q.1, ta734] at z; exact absurd z (by decide))).trans c727
                                have c743 : I736 a0 10 = v632 := (f738 _ _ (fun q => by have z := ta0; rw [q.1, ta734] at z; exact absurd z (by decide))).trans c728
                                have c744 : I736 a0 11 = v635 := (f738 _ _ (fun q => by have z := ta0; rw [q.1, ta734] at z; exact absurd z (by decide))).trans c729
                                have c745 : I736 a0 12 = v639 := (f738 _ _ (fun q => by have z := ta0; rw [q.1, ta734] at z; exact absurd z (by decide))).trans c730
                                have c746 : I736 a0 8 = v641 := (f738 _ _ (fun q => by have z := ta0; rw [q.1, ta734] at z; exact absurd z (by decide))).trans c731
                                have hO747 : FrO 14 a1 T I0 I736 := hO732.put f738 ta734 (Or.inl (by decide))
                                have hM748 : NmM I736 R0 L656 a1 (bdQ gB gQ 7 (tkN gB gs)) := NmM.kp1 hM733 f738 ta734 rfl rfl hS722.1 ta1
                                refine tr_aload_n dX12_readTurner_312 hl415 ?_
                                refine tr_getR dX12_readTurner_313 fl12_188 (kR15 hS737.1 ta0) d2 ?_
                                obtain ⟨a749, d750, ta749⟩ := rf14_25 hW0 ta1
                                refine tr_getR dX12_readTurner_316 fl12_346 (kR14 hS737.1 ta1) d750 ?_
                                refine tr_iload dX12_readTurner_319 rfl ?_
                                refine tr_iload dX12_readTurner_321 rfl ?_
                                refine q_iast dX12_readTurner_323 (kR68 hS737.1 ta749) (ti_in (nR68 hS737.1 ta749) (by exact om_b3c9b955 pre19 b47.2 b47.1 p48 w81 g452) (by exact om_1c92eee0 pre19 b47.2 b47.1 p48 w81 g452)) hS737 ta749 (iokF rfl) rfl (by rfl) ?_
                                intro I751 hS752 e754 f753
                                have c755 : I751 a1 4 = v435 := (f753 _ _ (fun q => by have z := ta1; rw [q.1, ta749] at z; exact absurd z (by decide))).trans c740
                                have c756 : I751 a0 13 = v522 := (f753 _ _ (fun q => by have z := ta0; rw [q.1, ta749] at z; exact absurd z (by decide))).trans c741
                                have c757 : I751 a0 9 = v629 := (f753 _ _ (fun q => by have z := ta0; rw [q.1, ta749] at z; exact absurd z (by decide))).trans c742
                                have c758 : I751 a0 10 = v632 := (f753 _ _ (fun q => by have z := ta0; rw [q.1, ta749] at z; exact absurd z (by decide))).trans c743
                                have c759 : I751 a0 11 = v635 := (f753 _ _ (fun q => by have z := ta0; rw [q.1, ta749] at z; exact absurd z (by decide))).trans c744
                                have c760 : I751 a0 12 = v639 := (f753 _ _ (fun q => by have z := ta0; rw [q.1, ta749] at z; exact absurd z (by decide))).trans c745
                                have c761 : I751 a0 8 = v641 := (f753 _ _ (fun q => by have z := ta0; rw [q.1, ta749] at z; exact absurd z (by decide))).trans c746
                                have hO762 : FrO 14 a1 T I0 I751 := hO747.put f753 ta749 (Or.inl (by decide))
                                have hM763 : NmM I751 R0 L656 a1 (bdQ gB gQ 7 (tkN gB gs)) := NmM.kp1 hM748 f753 ta749 rfl rfl hS737.1 ta1
                                refine tr_aload_n dX12_readTurner_324 hl415 ?_
                                refine tr_getR dX12_readTurner_325 fl12_188 (kR15 hS752.1 ta0) d2 ?_
                                refine tr_dup dX12_readTurner_328 rfl ?_
                                refine q_getI dX12_readTurner_329 fl12_315 (kR14 hS752.1 ta1) c755 ?_
                                refine q_iconst dX12_readTurner_332 (by decide) ?_
                                intro v764 h765
                                refine q_iaddE dX12_readTurner_333 (by intro j1 j2 j3 j4; exact om_db8a61e6 pre19 b47.2 b47.1 p48 w81 g452 h765) ?_
                                intro v766 h767
                                refine q_putX dX12_readTurner_334 fl12_315 (kR14 hS752.1 ta1) (Or.inl rfl) hS752 ta1 (by decide +kernel) (hS752.1.putN (d' := 0) ta0 d2 (Or.inr (Or.inr rfl)) (by rw [c755]; exact om_73462c49 h765 h767) (by decide) (by show (0 : Int) ≤ v766.toInt ∧ v766.toInt ≤ (5 : Int); exact om_e92d58f1 pre19 b47.2 b47.1 p48 w81 g452 h765 h767)) ?_
                                intro I768 hS769 e770 f771
                                have c772 : I768 a0 13 = v522 := (f771 _ _ (fun q => absurd q.2 (by decide))).trans c756
                                have c773 : I768 a0 9 = v629 := (f771 _ _ (fun q => absurd q.2 (by decide))).trans c757
                                have c774 : I768 a0 10 = v632 := (f771 _ _ (fun q => absurd q.2 (by decide))).trans c758
                                have c775 : I768 a0 11 = v635 := (f771 _ _ (fun q => absurd q.2 (by decide))).trans c759
                                have c776 : I768 a0 12 = v639 := (f771 _ _ (fun q => absurd q.2 (by decide))).trans c760
                                have c777 : I768 a0 8 = v641 := (f771 _ _ (fun q => absurd q.2 (by decide))).trans c761
                                have hO778 : FrO 14 a1 T I0 I768 := hO762.put f771 ta1 (Or.inr rfl)
                                have hM779 : NmM I768 R0 L656 a1 (bdQ gB gQ 7 (tkN gB gs)) := NmM.kp1 hM763 f771 ta1 rfl rfl hS752.1 ta1
                                obtain ⟨v780, c781⟩ : ∃ v, I768 a0 14 = v := ⟨_, rfl⟩
                                have u782 : huF gB gQ 901 0 (tkN gB (tkN gB (tkN gB (tkN gB (tkN gB (tkN gB (tkN gB (tkN gB (tkN gB (tkN gB (tkN gB (tkN gB gs)))))))))))) = 0 := by rw [← g449]; simp only [huF, ↓reduceIte]; exact om_f0282f65 p36 w78 h479 h481 h483 p500 p501 p502 p534 h535 p544 p543 b559.1 h578 p605 p607 h646 h647
                                have eF := hF.eq
                                have eP := hP.eq
                                have es783 : tuS gB gQ (tkN gB gs) = (tkN gB gs426) := by rw [tuS, ← g451]; simp only [huS, ↓reduceIte]; exact om_92912ced p544 p543 b559.1 h578 p605 p607 h646 h647
                                exact tr_vret hZ dX12_readTurner_337 rfl (by decide) (by decide) (hq _ _ _ ⟨hS769, (fun dr hd => (Option.some.inj (d2.symm.trans hd)) ▸ hO778), (Or.inl ⟨(by (try rw [w76]); (try rw [es783]); first | done | with_reducible assumption | exact om_d12bbb76 u782 eF), (fun q0 z0 => by obtain rfl := Option.some.inj ((d2).symm.trans z0); (try rw [w76]); (try rw [es783]); (try rw [((hS769.cell ta1 (by decide +kernel)).trans c30)]); first | done | with_reducible assumption | exact om_2757374c p32 w77), (fun q0 z0 => by obtain rfl := Option.some.inj ((d2).symm.trans z0); (try rw [w76]); (try rw [es783]); (try rw [((hS769.cell ta1 (by decide +kernel)).trans c34)]); first | done | with_reducible assumption | exact om_2757374c p36 w78), (fun q0 z0 => by obtain rfl := Option.some.inj ((d2).symm.trans z0); (try rw [w76]); (try rw [es783]); (try rw [((hS769.cell ta1 (by decide +kernel)).trans c38)]); first | done | with_reducible assumption | exact om_2757374c p40 w79), (fun q0 z0 => by obtain rfl := Option.some.inj ((d2).symm.trans z0); (try rw [w76]); (try rw [es783]); (try rw [((hS769.cell ta1 (by decide +kernel)).trans c42)]); first | done | with_reducible assumption | exact om_2757374c p44 w80), (fun q0 z0 => by obtain rfl := Option.some.inj ((d2).symm.trans z0); (try rw [w76]); (try rw [es783]); (try rw [e770]); first | done | with_reducible assumption | exact om_da36d9ea p48 w81 g452 h765 h767), (fun q0 z0 => by obtain rfl := Option.some.inj ((d2).symm.trans z0); (try rw [w76]); (try rw [es783]); (try rw [((hS769.cell ta1 (by decide +kernel)).trans c50)]); first | done | with_reducible assumption | exact om_2757374c p52 w82), (fun q0 z0 => by obtain rfl := Option.some.inj ((d2).symm.trans z0); (try rw [w76]); (try rw [es783]); (try rw [((hS769.cell ta1 (by decide +kernel)).trans c54)]); first | done | with_reducible assumption | exact om_2757374c p56 w83), (fun q0 z0 => by obtain rfl := Option.some.inj ((d2).symm.trans z0); (try rw [w76]); (try rw [es783]); (try rw [((hS769.cell ta1 (by decide +kernel)).trans c58)]); first | done | with_reducible assumption | exact om_2757374c p60 w85), (by (try rw [w76]); (try rw [es783]); (try rw [c772]); (try rw [c72]); first | done | with_reducible assumption | exact om_8ebee7bb p109 p178 p247 p316 p377 g458 p503), (by (try rw [w76]); (try rw [es783]); (try rw [c773]); first | done | with_reducible assumption | omega), (by (try rw [w76]); (try rw [es783]); (try rw [c773]); first | done | with_reducible assumption | omega), (by (try rw [w76]); (try rw [es783]); (try rw [c774]); first | done | with_reducible assumption | omega), (by (try rw [w76]); (try rw [es783]); (try rw [c775]); first | done | with_reducible assumption | omega), (by (try rw [w76]); (try rw [es783]); (try rw [c672]); first | done | assumption), (by (try rw [w76]); (try rw [es783]); (try rw [c776]); first | done | assumption), (by (try rw [w76]); (try rw [es783]); (try rw [c777]); first | done | assumption), hL671, (fun b hb => (Option.some.inj (d2.symm.trans hb)) ▸ NmM.ln hM779 (by exact om_58805a6b p63)), trivial⟩), trivial⟩)
                              · skip
                                exfalso; exact om_ab4be5f1 p544 p543 b559.1 p607 h646 h647
                            · skip
                              exfalso; exact om_3a97d4a5 p604 h644
                        · skip
                          refine tr_aload_n dX12_readTurner_198 hl415 ?_
                          refine q_iconst dX12_readTurner_199 (by decide) ?_
                          intro v784 h785
                          refine q_callVv hE (M' := mX12_flaw) (as := [_]) dX12_readTurner_200 lk12_145 inX12_flaw seX12_flaw myX12_flaw (by decide) ⟨by decide, by decide⟩ rfl (kR15 hS492.1 ta0) (Nat.le_of_ble_eq_true rfl) rfl rfl (by decide) (by decide) (fk_X12_flaw hS492.1  ta0 (by exact om_7e011daf h785) (by (try rw [c525]); first | done | with_reducible assumption | exact om_25eaf917 g459 g460 b469.1 p504)) ?_
                          rintro cn' K' N' I786 R787 L788 ⟨rfl, rfl, rfl, rfl, rfl, g789, p792, p793, p794, -⟩
                          have hM795 : NmM I786 R0 L425 a1 gQ := NmM.kpS hM491 g789 hS492.1 ta1 (by decide +kernel) (by decide +kernel)
                          have hS796 := hS492.tr g789 (by decide +kernel) (by decide +kernel)
                          have c797 : I786 a1 4 = v435 := (g789.cell ta1 (by decide +kernel)).trans c493
                          have c798 : I786 a0 10 = v439 := (g789.cell ta0 (by decide +kernel)).trans c494
                          have c799 : I786 a0 11 = v441 := (g789.cell ta0 (by decide +kernel)).trans c495
                          have c800 : I786 a0 12 = v445 := (g789.cell ta0 (by decide +kernel)).trans c496
                          have c801 : I786 a0 8 = v447 := (g789.cell ta0 (by decide +kernel)).trans c497
                          have hO802 : FrO 14 a1 T I0 I786 := hO498.st g789 (by decide +kernel)
                          obtain ⟨v803, c804⟩ : ∃ v, I786 a0 9 = v := ⟨_, rfl⟩
                          have b805 := iv15_9 hS796.1 ta0 c804
                          rw [c804] at p792
                          obtain ⟨v806, c807⟩ : ∃ v, I786 a0 13 = v := ⟨_, rfl⟩
                          rw [c807] at p793
                          obtain ⟨v808, c809⟩ : ∃ v, I786 a0 14 = v := ⟨_, rfl⟩
                          rw [c809] at p794
                          rw [c494] at p794
                          refine tr_aload_n dX12_readTurner_203 hl415 ?_
                          refine q_callVv hE (M' := mX12_goesOn) (as := []) dX12_readTurner_204 lk12_142 inX12_goesOn seX12_goesOn myX12_goesOn (by decide) ⟨by decide, by decide⟩ rfl (kR15 hS796.1 ta0) (Nat.le_of_ble_eq_true rfl) rfl rfl (by decide) (by decide) (k_X12_goesOn hS796.1 ta0) ?_
                          rintro cn' K' N' I810 R811 L812 ⟨rfl, rfl, rfl, rfl, g813, p815, p816, p817, w818, -⟩
                          have hS819 := hS796.tr g813 (by decide +kernel) (by decide +kernel)
                          have c820 : I810 a1 4 = v435 := (g813.cell ta1 (by decide +kernel)).trans c797
                          have c821 : I810 a0 13 = v806 := (g813.cell ta0 (by decide +kernel)).trans c807
                          have c822 : I810 a0 14 = v808 := (g813.cell ta0 (by decide +kernel)).trans c809
                          obtain ⟨v823, c824⟩ : ∃ v, I810 a0 9 = v := ⟨_, rfl⟩
                          have b825 := iv15_9 hS819.1 ta0 c824
                          rw [c804] at p815
                          rw [c824] at p815
                          rw [c804] at p816
                          rw [c824] at p816
                          obtain ⟨v826, c827⟩ : ∃ v, I810 a0 8 = v := ⟨_, rfl⟩
                          have b828 := iv15_8 hS819.1 ta0 c827
                          rw [c827] at p817
                          rw [c801] at p817
                          rw [c821] at p817
                          rw [c807] at p817
                          have hO829 : FrO 14 a1 T I0 I810 := hO802.st g813 (by decide +kernel)
                          have ov830 := w818.over (by rw [c804]; exact om_394b70a2 p792)
                          obtain ⟨v831, c832⟩ : ∃ v, I810 a0 9 = v := ⟨_, rfl⟩
                          have b833 := iv15_9 hS819.1 ta0 c832
                          obtain ⟨v834, c835⟩ : ∃ v, I810 a0 13 = v := ⟨_, rfl⟩
                          obtain ⟨v836, c837⟩ : ∃ v, I810 a0 14 = v := ⟨_, rfl⟩
                          (try rw [c832] at ov830)
                          (try rw [c835] at ov830)
                          (try rw [c837] at ov830)
                          (try rw [c804] at ov830)
                          (try rw [c807] at ov830)
                          (try rw [c809] at ov830)
                          refine tr_iload dX12_readTurner_207 hl422 ?_
                          refine q_iconst dX12_readTurner_209 (by decide) ?_
                          intro v838 h839
                          refine tr_iload dX12_readTurner_210 rfl ?_
                          refine q_ishlE dX12_readTurner_212 (by exact om_ee8a1e2d h839) (by exact om_791b09ff b35.2 b35.1 p36 w78 h479 h481 h483 p499 p501 p502) ?_
                          intro v840 h841
                          refine q_ior dX12_readTurner_213 ?_
                          intro v842
                          refine tr_istore dX12_readTurner_214 (by decide) (by decide) ?_
                          refine tr_aload_n dX12_readTurner_216 hl415 ?_
                          refine q_bipush dX12_readTurner_217 (by decide +kernel) ?_
                          intro v843 h844
                          refine q_callVi hE (M' := mX12_eatsSign) (as := [_]) dX12_readTurner_219 lk12_221 inX12_eatsSign seX12_eatsSign myX12_eatsSign (by decide) ⟨by decide, by decide⟩ rfl (kR15 hS819.1 ta0) (Nat.le_of_ble_eq_true rfl) rfl rfl (by decide) (by decide) (k_X12_eatsSign hS819.1 ta0) ?_
                          rintro v849 cn' K' N' I845 R846 L847 ⟨rfl, rfl, rfl, rfl, g848, h850, p851, p852, w853, -⟩
                          have hS854 := hS819.tr g848 (by decide +kernel) (by decide +kernel)
                          have c855 : I845 a1 4 = v435 := (g848.cell ta1 (by decide +kernel)).trans c820
                          have c856 : I845 a0 13 = v834 := (g848.cell ta0 (by decide +kernel)).trans c835
                          have c857 : I845 a0 14 = v836 := (g848.cell ta0 (by decide +kernel)).trans c837
                          rw [c832] at p851
                          obtain ⟨v858, c859⟩ : ∃ v, I845 a0 8 = v := ⟨_, rfl⟩
                          have b860 := iv15_8 hS854.1 ta0 c859
                          rw [c859] at p852
                          rw [c827] at p852
                          have hO861 : FrO 14 a1 T I0 I845 := hO829.st g848 (by decide +kernel)
                          have ov862 := w853.over (by rw [c832]; exact om_394b70a2 ov830.1)
                          obtain ⟨v863, c864⟩ : ∃ v, I845 a0 9 = v := ⟨_, rfl⟩
                          have b865 := iv15_9 hS854.1 ta0 c864
                          obtain ⟨v866, c867⟩ : ∃ v, I845 a0 13 = v := ⟨_, rfl⟩
                          obtain ⟨v868, c869⟩ : ∃ v, I845 a0 14 = v := ⟨_, rfl⟩
                          (try rw [c864] at ov862)
                          (try rw [c867] at ov862)
                          (try rw [c869] at ov862)
                          (try rw [c832] at ov862)
                          (try rw [c835] at ov862)
                          (try rw [c837] at ov862)
                          refine tr_istore dX12_readTurner_222 (by decide) (by decide) ?_
                          refine tr_goto 159 dX12_readTurner_224 (by decide) ?_
                          refine tr_iload dX12_readTurner_159 rfl ?_
                          refine q_if_eq 227 dX12_readTurner_161 (by decide) (fun h870 => ?_) (fun h870 => ?_)
                          · skip
                            refine tr_aload_n dX12_readTurner_227 hl415 ?_
                            refine q_getI dX12_readTurner_228 fl12_99 (kR15 hS854.1 ta0) c864 ?_
                            refine q_iconst dX12_readTurner_231 (by decide) ?_
                            intro v871 h872
                            refine q_icmp_ne 236 dX12_readTurner_232 (by decide) (fun h873 => ?_) (fun h873 => ?_)
                            · skip
                              exfalso; exact om_1fa3e129 ov862.1 h872 h873
                            · skip
                              have u874 : huF gB gQ 901 0 (tkN gB (tkN gB (tkN gB (tkN gB (tkN gB (tkN gB (tkN gB (tkN gB (tkN gB (tkN gB (tkN gB (tkN gB gs)))))))))))) = v866.toInt := by rw [← g449]; simp only [huF, ↓reduceIte]; exact om_749481c5 p36 w78 h479 h481 h483 p500 p501 p502 h533.2 h533.1 p534 h535 h785 p792 p793 p816 p815 b825.2 b825.1 ov830.1 ov830.2.1 p851 ov862.2.1 h870
                              have u874p : huP gB gQ 901 0 (tkN gB (tkN gB (tkN gB (tkN gB (tkN gB (tkN gB (tkN gB (tkN gB (tkN gB (tkN gB (tkN gB (tkN gB gs)))))))))))) = v868.toInt := by rw [← g450]; simp only [huP, ↓reduceIte]; exact om_6c21be8d g461 b470.2 b470.1 h533.2 h533.1 p534 h535 p792 p794 p816 p815 b825.2 b825.1 ov830.1 ov830.2.2 p851 ov862.2.2 h870
                              have eF := hF.eq
                              have eP := hP.eq
                              obtain ⟨v875, c876⟩ : ∃ v, I845 a0 10 = v := ⟨_, rfl⟩
                              have b877 := iv15_10 hS854.1 ta0 c876
                              obtain ⟨v878, c879⟩ : ∃ v, I845 a0 11 = v := ⟨_, rfl⟩
                              obtain ⟨y880, c881⟩ : ∃ v, L847 a0 15 = v := ⟨_, rfl⟩
                              obtain ⟨v882, c883⟩ : ∃ v, I845 a0 12 = v := ⟨_, rfl⟩
                              exact tr_vret hZ dX12_readTurner_235 rfl (by decide) (by decide) (hq _ _ _ ⟨hS854, (fun dr hd => (Option.some.inj (d2.symm.trans hd)) ▸ hO861), (Or.inr (⟨(by (try rw [w76]); first | done | with_reducible assumption | exact om_9fcd6f32 h785 p793 ov830.2.1 ov862.2.1 u874 eF), (by (try rw [w76]); (try rw [c864]); first | done | with_reducible assumption | exact om_394b70a2 ov862.1), (by (try rw [w76]); (try rw [c867]); first | done | with_reducible assumption | exact om_1cf9e25c h785 p793 ov830.2.1 ov862.2.1 u874 eF), (by (try rw [w76]); (try rw [c869]); first | done | with_reducible assumption | exact om_9c29206b u874p eP), trivial⟩)), trivial⟩)
                          · skip
                            exfalso; exact om_1952d64c ov830.1 h850.2 h850.1 p851 h870
                      · skip
                        obtain ⟨v884, c885⟩ : ∃ v, I484 a0 9 = v := ⟨_, rfl⟩
                        have b886 := iv15_9 hS492.1 ta0 c885
                        rw [c885] at p513
                        obtain ⟨v887, c888⟩ : ∃ v, I484 a0 13 = v := ⟨_, rfl⟩
                        rw [c888] at p514
                        obtain ⟨v889, c890⟩ : ∃ v, I484 a0 14 = v := ⟨_, rfl⟩
                        rw [c890] at p515
                        refine tr_istore dX12_readTurner_186 (by decide) (by decide) ?_
                        refine tr_iload dX12_readTurner_188 hl422 ?_
                        refine tr_iload dX12_readTurner_190 rfl ?_
                        refine q_callSi hE (M' := mX12_has) (as := [_, _]) dX12_readTurner_192 lk12_329 inX12_has myX12_has ⟨by decide, by decide⟩ rfl (Nat.le_of_ble_eq_true rfl) rfl rfl (by decide) (by decide) (k_X12_has hS492.1 ) ?_
                        rintro v895 cn' K' N' I891 R892 L893 ⟨rfl, rfl, rfl, rfl, rfl, rfl, h896, -⟩
                        refine q_if_eq 203 dX12_readTurner_195 (by decide) (fun h897 => ?_) (fun h897 => ?_)
                        · skip
                          refine tr_aload_n dX12_readTurner_203 hl415 ?_
                          refine q_callVv hE (M' := mX12_goesOn) (as := []) dX12_readTurner_204 lk12_142 inX12_goesOn seX12_goesOn myX12_goesOn (by decide) ⟨by decide, by decide⟩ rfl (kR15 hS492.1 ta0) (Nat.le_of_ble_eq_true rfl) rfl rfl (by decide) (by decide) (k_X12_goesOn hS492.1 ta0) ?_
                          rintro cn' K' N' I898 R899 L900 ⟨rfl, rfl, rfl, rfl, g901, p903, p904, p905, w906, -⟩
                          have hS907 := hS492.tr g901 (by decide +kernel) (by decide +kernel)
                          have c908 : I898 a1 4 = v435 := (g901.cell ta1 (by decide +kernel)).trans c493
                          have c909 : I898 a0 13 = v887 := (g901.cell ta0 (by decide +kernel)).trans c888
                          have c910 : I898 a0 14 = v889 := (g901.cell ta0 (by decide +kernel)).trans c890
                          obtain ⟨v911, c912⟩ : ∃ v, I898 a0 9 = v := ⟨_, rfl⟩
                          have b913 := iv15_9 hS907.1 ta0 c912
                          rw [c885] at p903
                          rw [c912] at p903
                          rw [c885] at p904
                          rw [c912] at p904
                          obtain ⟨v914, c915⟩ : ∃ v, I898 a0 8 = v := ⟨_, rfl⟩
                          have b916 := iv15_8 hS907.1 ta0 c915
                          rw [c915] at p905
                          rw [c497] at p905
                          rw [c909] at p905
                          rw [c888] at p905
                          have hO917 : FrO 14 a1 T I0 I898 := hO498.st g901 (by decide +kernel)
                          have ov918 := w906.over (by rw [c885]; exact om_394b70a2 p513)
                          obtain ⟨v919, c920⟩ : ∃ v, I898 a0 9 = v := ⟨_, rfl⟩
                          have b921 := iv15_9 hS907.1 ta0 c920
                          obtain ⟨v922, c923⟩ : ∃ v, I898 a0 13 = v := ⟨_, rfl⟩
                          obtain ⟨v924, c925⟩ : ∃ v, I898 a0 14 = v := ⟨_, rfl⟩
                          (try rw [c920] at ov918)
                          (try rw [c923] at ov918)
                          (try rw [c925] at ov918)
                          (try rw [c885] at ov918)
                          (try rw [c888] at ov918)
                          (try rw [c890] at ov918)
                          refine tr_iload dX12_readTurner_207 hl422 ?_
                          refine q_iconst dX12_readTurner_209 (by decide) ?_
                          intro v926 h927
                          refine tr_iload dX12_readTurner_210 rfl ?_
                          refine q_ishlE dX12_readTurner_212 (by exact om_ee8a1e2d h927) (by exact om_4b929144 b35.2 b35.1 p36 w78 h479 h481 h483 p511 p512 p513 p904 p903 b913.2 b913.1) ?_
                          intro v928 h929
                          refine q_ior dX12_readTurner_213 ?_
                          intro v930
                          refine tr_istore dX12_readTurner_214 (by decide) (by decide) ?_
                          refine tr_aload_n dX12_readTurner_216 hl415 ?_
                          refine q_bipush dX12_readTurner_217 (by decide +kernel) ?_
                          intro v931 h932
                          refine q_callVi hE (M' := mX12_eatsSign) (as := [_]) dX12_readTurner_219 lk12_221 inX12_eatsSign seX12_eatsSign myX12_eatsSign (by decide) ⟨by decide, by decide⟩ rfl (kR15 hS907.1 ta0) (Nat.le_of_ble_eq_true rfl) rfl rfl (by decide) (by decide) (k_X12_eatsSign hS907.1 ta0) ?_
                          rintro v937 cn' K' N' I933 R934 L935 ⟨rfl, rfl, rfl, rfl, g936, h938, p939, p940, w941, -⟩
                          have hS942 := hS907.tr g936 (by decide +kernel) (by decide +kernel)
                          have c943 : I933 a1 4 = v435 := (g936.cell ta1 (by decide +kernel)).trans c908
                          have c944 : I933 a0 13 = v922 := (g936.cell ta0 (by decide +kernel)).trans c923
                          have c945 : I933 a0 14 = v924 := (g936.cell ta0 (by decide +kernel)).trans c925
                          rw [c920] at p939
                          obtain ⟨v946, c947⟩ : ∃ v, I933 a0 8 = v := ⟨_, rfl⟩
                          have b948 := iv15_8 hS942.1 ta0 c947
                          rw [c947] at p940
                          rw [c915] at p940
                          have hO949 : FrO 14 a1 T I0 I933 := hO917.st g936 (by decide +kernel)
                          have ov950 := w941.over (by rw [c920]; exact om_394b70a2 ov918.1)
                          obtain ⟨v951, c952⟩ : ∃ v, I933 a0 9 = v := ⟨_, rfl⟩
                          have b953 := iv15_9 hS942.1 ta0 c952
                          obtain ⟨v954, c955⟩ : ∃ v, I933 a0 13 = v := ⟨_, rfl⟩
                          obtain ⟨v956, c957⟩ : ∃ v, I933 a0 14 = v := ⟨_, rfl⟩
                          (try rw [c952] at ov950)
                          (try rw [c955] at ov950)
                          (try rw [c957] at ov950)
                          (try rw [c920] at ov950)
                          (try rw [c923] at ov950)
                          (try rw [c925] at ov950)
                          refine tr_istore dX12_readTurner_222 (by decide) (by decide) ?_
                          refine tr_goto 159 dX12_readTurner_224 (by decide) ?_
                          refine tr_iload dX12_readTurner_159 rfl ?_
                          refine q_if_eq 227 dX12_readTurner_161 (by decide) (fun h958 => ?_) (fun h958 => ?_)
                          · skip
                            refine tr_aload_n dX12_readTurner_227 hl415 ?_
                            refine q_getI dX12_readTurner_228 fl12_99 (kR15 hS942.1 ta0) c952 ?_
                            refine q_iconst dX12_readTurner_231 (by decide) ?_
                            intro v959 h960
                            refine q_icmp_ne 236 dX12_readTurner_232 (by decide) (fun h961 => ?_) (fun h961 => ?_)
                            · skip
                              exfalso; exact om_1fa3e129 ov950.1 h960 h961
                            · skip
                              have u962 : huF gB gQ 901 0 (tkN gB (tkN gB (tkN gB (tkN gB (tkN gB (tkN gB (tkN gB (tkN gB (tkN gB (tkN gB (tkN gB (tkN gB gs)))))))))))) = v954.toInt := by rw [← g449]; simp only [huF, ↓reduceIte]; exact om_bedd6f3c p512 p514 ov918.2.1 ov950.2.1
                              have u962p : huP gB gQ 901 0 (tkN gB (tkN gB (tkN gB (tkN gB (tkN gB (tkN gB (tkN gB (tkN gB (tkN gB (tkN gB (tkN gB (tkN gB gs)))))))))))) = v956.toInt := by rw [← g450]; simp only [huP, ↓reduceIte]; exact om_1968a971 p512 p515 ov918.2.2 ov950.2.2
                              have eF := hF.eq
                              have eP := hP.eq
                              obtain ⟨v963, c964⟩ : ∃ v, I933 a0 10 = v := ⟨_, rfl⟩
                              have b965 := iv15_10 hS942.1 ta0 c964
                              obtain ⟨v966, c967⟩ : ∃ v, I933 a0 11 = v := ⟨_, rfl⟩
                              obtain ⟨y968, c969⟩ : ∃ v, L935 a0 15 = v := ⟨_, rfl⟩
                              obtain ⟨v970, c971⟩ : ∃ v, I933 a0 12 = v := ⟨_, rfl⟩
                              exact tr_vret hZ dX12_readTurner_235 rfl (by decide) (by decide) (hq _ _ _ ⟨hS942, (fun dr hd => (Option.some.inj (d2.symm.trans hd)) ▸ hO949), (Or.inr (⟨(by (try rw [w76]); first | done | with_reducible assumption | exact om_5f6b9a9f p514 ov918.2.1 ov950.2.1 u962 eF), (by (try rw [w76]); (try rw [c952]); first | done | with_reducible assumption | exact om_394b70a2 ov950.1), (by (try rw [w76]); (try rw [c955]); first | done | with_reducible assumption | exact om_8293e3a5 p514 ov918.2.1 ov950.2.1 u962 eF), (by (try rw [w76]); (try rw [c957]); first | done | with_reducible assumption | exact om_9c29206b u962p eP), trivial⟩)), trivial⟩)
                          · skip
                            exfalso; exact om_1952d64c ov918.1 h938.2 h938.1 p939 h958
                        · skip
                          refine tr_aload_n dX12_readTurner_198 hl415 ?_
                          refine q_iconst dX12_readTurner_199 (by decide) ?_
                          intro v972 h973
                          refine q_callVv hE (M' := mX12_flaw) (as := [_]) dX12_readTurner_200 lk12_145 inX12_flaw seX12_flaw myX12_flaw (by decide) ⟨by decide, by decide⟩ rfl (kR15 hS492.1 ta0) (Nat.le_of_ble_eq_true rfl) rfl rfl (by decide) (by decide) (k_X12_flaw hS492.1 ta0 (by exact om_7e011daf h973)) ?_
                          rintro cn' K' N' I974 R975 L976 ⟨rfl, rfl, rfl, rfl, rfl, g977, p979, p980, w981, -⟩
                          have hS982 := hS492.tr g977 (by decide +kernel) (by decide +kernel)
                          have c983 : I974 a1 4 = v435 := (g977.cell ta1 (by decide +kernel)).trans c493
                          have c984 : I974 a0 10 = v439 := (g977.cell ta0 (by decide +kernel)).trans c494
                          have c985 : I974 a0 11 = v441 := (g977.cell ta0 (by decide +kernel)).trans c495
                          have c986 : I974 a0 12 = v445 := (g977.cell ta0 (by decide +kernel)).trans c496
                          have c987 : I974 a0 8 = v447 := (g977.cell ta0 (by decide +kernel)).trans c497
                          obtain ⟨v988, c989⟩ : ∃ v, I974 a0 9 = v := ⟨_, rfl⟩
                          have b990 := iv15_9 hS982.1 ta0 c989
                          rw [c989] at p979
                          rw [c987] at p980
                          rw [c497] at p980
                          have hO991 : FrO 14 a1 T I0 I974 := hO498.st g977 (by decide +kernel)
                          have ov992 := w981.over (by rw [c885]; exact om_394b70a2 p513)
                          obtain ⟨v993, c994⟩ : ∃ v, I974 a0 9 = v := ⟨_, rfl⟩
                          have b995 := iv15_9 hS982.1 ta0 c994
                          obtain ⟨v996, c997⟩ : ∃ v, I974 a0 13 = v := ⟨_, rfl⟩
                          obtain ⟨v998, c999⟩ : ∃ v, I974 a0 14 = v := ⟨_, rfl⟩
                          (try rw [c994] at ov992)
                          (try rw [c997] at ov992)
                          (try rw [c999] at ov992)
                          (try rw [c885] at ov992)
                          (try rw [c888] at ov992)
                          (try rw [c890] at ov992)
                          refine tr_aload_n dX12_readTurner_203 hl415 ?_
                          refine q_callVv hE (M' := mX12_goesOn) (as := []) dX12_readTurner_204 lk12_142 inX12_goesOn seX12_goesOn myX12_goesOn (by decide) ⟨by decide, by decide⟩ rfl (kR15 hS982.1 ta0) (Nat.le_of_ble_eq_true rfl) rfl rfl (by decide) (by decide) (k_X12_goesOn hS982.1 ta0) ?_
                          rintro cn' K' N' I1000 R1001 L1002 ⟨rfl, rfl, rfl, rfl, g1003, p1005, p1006, p1007, w1008, -⟩
                          have hS1009 := hS982.tr g1003 (by decide +kernel) (by decide +kernel)
                          have c1010 : I1000 a1 4 = v435 := (g1003.cell ta1 (by decide +kernel)).trans c983
                          have c1011 : I1000 a0 13 = v996 := (g1003.cell ta0 (by decide +kernel)).trans c997
                          have c1012 : I1000 a0 14 = v998 := (g1003.cell ta0 (by decide +kernel)).trans c999
                          obtain ⟨v1013, c1014⟩ : ∃ v, I1000 a0 9 = v := ⟨_, rfl⟩
                          have b1015 := iv15_9 hS1009.1 ta0 c1014
                          rw [c994] at p1005
                          rw [c1014] at p1005
                          rw [c994] at p1006
                          rw [c1014] at p1006
                          obtain ⟨v1016, c1017⟩ : ∃ v, I1000 a0 8 = v := ⟨_, rfl⟩
                          have b1018 := iv15_8 hS1009.1 ta0 c1017
                          rw [c1017] at p1007
                          rw [c987] at p1007
                          rw [c1011] at p1007
                          rw [c997] at p1007
                          have hO1019 : FrO 14 a1 T I0 I1000 := hO991.st g1003 (by decide +kernel)
                          have ov1020 := w1008.over (by rw [c994]; exact om_394b70a2 ov992.1)
                          obtain ⟨v1021, c1022⟩ : ∃ v, I1000 a0 9 = v := ⟨_, rfl⟩
                          have b1023 := iv15_9 hS1009.1 ta0 c1022
                          obtain ⟨v1024, c1025⟩ : ∃ v, I1000 a0 13 = v := ⟨_, rfl⟩
                          obtain ⟨v1026, c1027⟩ : ∃ v, I1000 a0 14 = v := ⟨_, rfl⟩
                          (try rw [c1022] at ov1020)
                          (try rw [c1025] at ov1020)
                          (try rw [c1027] at ov1020)
                          (try rw [c994] at ov1020)
                          (try rw [c997] at ov1020)
                          (try rw [c999] at ov1020)
                          refine tr_iload dX12_readTurner_207 hl422 ?_
                          refine q_iconst dX12_readTurner_209 (by decide) ?_
                          intro v1028 h1029
                          refine tr_iload dX12_readTurner_210 rfl ?_
                          refine q_ishlE dX12_readTurner_212 (by exact om_ee8a1e2d h1029) (by exact om_4d060472 b35.2 b35.1 p36 w78 h479 h481 h483 p511 p512 h896.2 h896.1 h897 ov992.1 p1006 p1005 b1015.2 b1015.1) ?_
                          intro v1030 h1031
                          refine q_ior dX12_readTurner_213 ?_
                          intro v1032
                          refine tr_istore dX12_readTurner_214 (by decide) (by decide) ?_
                          refine tr_aload_n dX12_readTurner_216 hl415 ?_
                          refine q_bipush dX12_readTurner_217 (by decide +kernel) ?_
                          intro v1033 h1034
                          refine q_callVi hE (M' := mX12_eatsSign) (as := [_]) dX12_readTurner_219 lk12_221 inX12_eatsSign seX12_eatsSign myX12_eatsSign (by decide) ⟨by decide, by decide⟩ rfl (kR15 hS1009.1 ta0) (Nat.le_of_ble_eq_true rfl) rfl rfl (by decide) (by decide) (k_X12_eatsSign hS1009.1 ta0) ?_
                          rintro v1039 cn' K' N' I1035 R1036 L1037 ⟨rfl, rfl, rfl, rfl, g1038, h1040, p1041, p1042, w1043, -⟩
                          have hS1044 := hS1009.tr g1038 (by decide +kernel) (by decide +kernel)
                          have c1045 : I1035 a1 4 = v435 := (g1038.cell ta1 (by decide +kernel)).trans c1010
                          have c1046 : I1035 a0 13 = v1024 := (g1038.cell ta0 (by decide +kernel)).trans c1025
                          have c1047 : I1035 a0 14 = v1026 := (g1038.cell ta0 (by decide +kernel)).trans c1027
                          rw [c1022] at p1041
                          obtain ⟨v1048, c1049⟩ : ∃ v, I1035 a0 8 = v := ⟨_, rfl⟩
                          have b1050 := iv15_8 hS1044.1 ta0 c1049
                          rw [c1049] at p1042
                          rw [c1017] at p1042
                          have hO1051 : FrO 14 a1 T I0 I1035 := hO1019.st g1038 (by decide +kernel)
                          have ov1052 := w1043.over (by rw [c1022]; exact om_394b70a2 ov1020.1)
                          obtain ⟨v1053, c1054⟩ : ∃ v, I1035 a0 9 = v := ⟨_, rfl⟩
                          have b1055 := iv15_9 hS1044.1 ta0 c1054
                          obtain ⟨v1056, c1057⟩ : ∃ v, I1035 a0 13 = v := ⟨_, rfl⟩
                          obtain ⟨v1058, c1059⟩ : ∃ v, I1035 a0 14 = v := ⟨_, rfl⟩
                          (try rw [c1054] at ov1052)
                          (try rw [c1057] at ov1052)
                          (try rw [c1059] at ov1052)
                          (try rw [c1022] at ov1052)
                          (try rw [c1025] at ov1052)
                          (try rw [c1027] at ov1052)
                          refine tr_istore dX12_readTurner_222 (by decide) (by decide) ?_
                          refine tr_goto 159 dX12_readTurner_224 (by decide) ?_
                          refine tr_iload dX12_readTurner_159 rfl ?_
                          refine q_if_eq 227 dX12_readTurner_161 (by decide) (fun h1060 => ?_) (fun h1060 => ?_)
                          · skip
                            refine tr_aload_n dX12_readTurner_227 hl415 ?_
                            refine q_getI dX12_readTurner_228 fl12_99 (kR15 hS1044.1 ta0) c1054 ?_
                            refine q_iconst dX12_readTurner_231 (by decide) ?_
                            intro v1061 h1062
                            refine q_icmp_ne 236 dX12_readTurner_232 (by decide) (fun h1063 => ?_) (fun h1063 => ?_)
                            · skip
                              exfalso; exact om_1fa3e129 ov1052.1 h1062 h1063
                            · skip
                              have u1064 : huF gB gQ 901 0 (tkN gB (tkN gB (tkN gB (tkN gB (tkN gB (tkN gB (tkN gB (tkN gB (tkN gB (tkN gB (tkN gB (tkN gB gs)))))))))))) = v1056.toInt := by rw [← g449]; simp only [huF, ↓reduceIte]; exact om_cf77d32d p512 p514 ov992.2.1 ov1020.2.1 ov1052.2.1
                              have u1064p : huP gB gQ 901 0 (tkN gB (tkN gB (tkN gB (tkN gB (tkN gB (tkN gB (tkN gB (tkN gB (tkN gB (tkN gB (tkN gB (tkN gB gs)))))))))))) = v1058.toInt := by rw [← g450]; simp only [huP, ↓reduceIte]; exact om_e6fd41d7 p512 p515 ov992.2.2 ov1020.2.2 ov1052.2.2
                              have eF := hF.eq
                              have eP := hP.eq
                              obtain ⟨v1065, c1066⟩ : ∃ v, I1035 a0 10 = v := ⟨_, rfl⟩
                              have b1067 := iv15_10 hS1044.1 ta0 c1066
                              obtain ⟨v1068, c1069⟩ : ∃ v, I1035 a0 11 = v := ⟨_, rfl⟩
                              obtain ⟨y1070, c1071⟩ : ∃ v, L1037 a0 15 = v := ⟨_, rfl⟩
                              obtain ⟨v1072, c1073⟩ : ∃ v, I1035 a0 12 = v := ⟨_, rfl⟩
                              exact tr_vret hZ dX12_readTurner_235 rfl (by decide) (by decide) (hq _ _ _ ⟨hS1044, (fun dr hd => (Option.some.inj (d2.symm.trans hd)) ▸ hO1051), (Or.inr (⟨(by (try rw [w76]); first | done | with_reducible assumption | exact om_dbe14032 p514 ov992.2.1 ov1020.2.1 ov1052.2.1 u1064 eF), (by (try rw [w76]); (try rw [c1054]); first | done | with_reducible assumption | exact om_394b70a2 ov1052.1), (by (try rw [w76]); (try rw [c1057]); first | done | with_reducible assumption | exact om_db8d9faf p514 ov992.2.1 ov1020.2.1 ov1052.2.1 u1064 eF), (by (try rw [w76]); (try rw [c1059]); first | done | with_reducible assumption | exact om_9c29206b u1064p eP), trivial⟩)), trivial⟩)
                          · skip
                            exfalso; exact om_1952d64c ov1020.1 h1040.2 h1040.1 p1041 h1060
                      · skip
                        obtain ⟨v1074, c1075⟩ : ∃ v, I484 a0 9 = v := ⟨_, rfl⟩
                        have b1076 := iv15_9 hS492.1 ta0 c1075
                        rw [c1075] at p519
                        obtain ⟨v1077, c1078⟩ : ∃ v, I484 a0 13 = v := ⟨_, rfl⟩
                        rw [c1078] at p520
                        obtain ⟨v1079, c1080⟩ : ∃ v, I484 a0 14 = v := ⟨_, rfl⟩
                        rw [c1080] at p521
                        refine tr_istore dX12_readTurner_186 (by decide) (by decide) ?_
                        refine tr_iload dX12_readTurner_188 hl422 ?_
                        refine tr_iload dX12_readTurner_190 rfl ?_
                        refine q_callSi hE (M' := mX12_has) (as := [_, _]) dX12_readTurner_192 lk12_329 inX12_has myX12_has ⟨by decide, by decide⟩ rfl (Nat.le_of_ble_eq_true rfl) rfl rfl (by decide) (by decide) (k_X12_has hS492.1 ) ?_
                        rintro v1085 cn' K' N' I1081 R1082 L1083 ⟨rfl, rfl, rfl, rfl, rfl, rfl, h1086, -⟩
                        refine q_if_eq 203 dX12_readTurner_195 (by decide) (fun h1087 => ?_) (fun h1087 => ?_)
                        · skip
                          refine tr_aload_n dX12_readTurner_203 hl415 ?_
                          refine q_callVv hE (M' := mX12_goesOn) (as := []) dX12_readTurner_204 lk12_142 inX12_goesOn seX12_goesOn myX12_goesOn (by decide) ⟨by decide, by decide⟩ rfl (kR15 hS492.1 ta0) (Nat.le_of_ble_eq_true rfl) rfl rfl (by decide) (by decide) (k_X12_goesOn hS492.1 ta0) ?_
                          rintro cn' K' N' I1088 R1089 L1090 ⟨rfl, rfl, rfl, rfl, g1091, p1093, p1094, p1095, w1096, -⟩
                          have hS1097 := hS492.tr g1091 (by decide +kernel) (by decide +kernel)
                          have c1098 : I1088 a1 4 = v435 := (g1091.cell ta1 (by decide +kernel)).trans c493
                          have c1099 : I1088 a0 13 = v1077 := (g1091.cell ta0 (by decide +kernel)).trans c1078
                          have c1100 : I1088 a0 14 = v1079 := (g1091.cell ta0 (by decide +kernel)).trans c1080
                          obtain ⟨v1101, c1102⟩ : ∃ v, I1088 a0 9 = v := ⟨_, rfl⟩
                          have b1103 := iv15_9 hS1097.1 ta0 c1102
                          rw [c1075] at p1093
                          rw [c1102] at p1093
                          rw [c1075] at p1094
                          rw [c1102] at p1094
                          obtain ⟨v1104, c1105⟩ : ∃ v, I1088 a0 8 = v := ⟨_, rfl⟩
                          have b1106 := iv15_8 hS1097.1 ta0 c1105
                          rw [c1105] at p1095
                          rw [c497] at p1095
                          rw [c1099] at p1095
                          rw [c1078] at p1095
                          have hO1107 : FrO 14 a1 T I0 I1088 := hO498.st g1091 (by decide +kernel)
                          have ov1108 := w1096.over (by rw [c1075]; exact om_394b70a2 p519)
                          obtain ⟨v1109, c1110⟩ : ∃ v, I1088 a0 9 = v := ⟨_, rfl⟩
                          have b1111 := iv15_9 hS1097.1 ta0 c1110
                          obtain ⟨v1112, c1113⟩ : ∃ v, I1088 a0 13 = v := ⟨_, rfl⟩
                          obtain ⟨v1114, c1115⟩ : ∃ v, I1088 a0 14 = v := ⟨_, rfl⟩
                          (try rw [c1110] at ov1108)
                          (try rw [c1113] at ov1108)
                          (try rw [c1115] at ov1108)
                          (try rw [c1075] at ov1108)
                          (try rw [c1078] at ov1108)
                          (try rw [c1080] at ov1108)
                          refine tr_iload dX12_readTurner_207 hl422 ?_
                          refine q_iconst dX12_readTurner_209 (by decide) ?_
                          intro v1116 h1117
                          refine tr_iload dX12_readTurner_210 rfl ?_
                          refine q_ishlE dX12_readTurner_212 (by exact om_ee8a1e2d h1117) (by exact om_192f52f1 b35.2 b35.1 p36 w78 h479 h481 h483 p516 p518 p519 p1094 p1093 b1103.2 b1103.1) ?_
                          intro v1118 h1119
                          refine q_ior dX12_readTurner_213 ?_
                          intro v1120
                          refine tr_istore dX12_readTurner_214 (by decide) (by decide) ?_
                          refine tr_aload_n dX12_readTurner_216 hl415 ?_
                          refine q_bipush dX12_readTurner_217 (by decide +kernel) ?_
                          intro v1121 h1122
                          refine q_callVi hE (M' := mX12_eatsSign) (as := [_]) dX12_readTurner_219 lk12_221 inX12_eatsSign seX12_eatsSign myX12_eatsSign (by decide) ⟨by decide, by decide⟩ rfl (kR15 hS1097.1 ta0) (Nat.le_of_ble_eq_true rfl) rfl rfl (by decide) (by decide) (k_X12_eatsSign hS1097.1 ta0) ?_
                          rintro v1127 cn' K' N' I1123 R1124 L1125 ⟨rfl, rfl, rfl, rfl, g1126, h1128, p1129, p1130, w1131, -⟩
                          have hS1132 := hS1097.tr g1126 (by decide +kernel) (by decide +kernel)
                          have c1133 : I1123 a1 4 = v435 := (g1126.cell ta1 (by decide +kernel)).trans c1098
                          have c1134 : I1123 a0 13 = v1112 := (g1126.cell ta0 (by decide +kernel)).trans c1113
                          have c1135 : I1123 a0 14 = v1114 := (g1126.cell ta0 (by decide +kernel)).trans c1115
                          rw [c1110] at p1129
                          obtain ⟨v1136, c1137⟩ : ∃ v, I1123 a0 8 = v := ⟨_, rfl⟩
                          have b1138 := iv15_8 hS1132.1 ta0 c1137
                          rw [c1137] at p1130
                          rw [c1105] at p1130
                          have hO1139 : FrO 14 a1 T I0 I1123 := hO1107.st g1126 (by decide +kernel)
                          have ov1140 := w1131.over (by rw [c1110]; exact om_394b70a2 ov1108.1)
                          obtain ⟨v1141, c1142⟩ : ∃ v, I1123 a0 9 = v := ⟨_, rfl⟩
                          have b1143 := iv15_9 hS1132.1 ta0 c1142
                          obtain ⟨v1144, c1145⟩ : ∃ v, I1123 a0 13 = v := ⟨_, rfl⟩
                          obtain ⟨v1146, c1147⟩ : ∃ v, I1123 a0 14 = v := ⟨_, rfl⟩
                          (try rw [c1142] at ov1140)
                          (try rw [c1145] at ov1140)
                          (try rw [c1147] at ov1140)
                          (try rw [c1110] at ov1140)
                          (try rw [c1113] at ov1140)
                          (try rw [c1115] at ov1140)
                          refine tr_istore dX12_readTurner_222 (by decide) (by decide) ?_
                          refine tr_goto 159 dX12_readTurner_224 (by decide) ?_
                          refine tr_iload dX12_readTurner_159 rfl ?_
                          refine q_if_eq 227 dX12_readTurner_161 (by decide) (fun h1148 => ?_) (fun h1148 => ?_)
                          · skip
                            refine tr_aload_n dX12_readTurner_227 hl415 ?_
                            refine q_getI dX12_readTurner_228 fl12_99 (kR15 hS1132.1 ta0) c1142 ?_
                            refine q_iconst dX12_readTurner_231 (by decide) ?_
                            intro v1149 h1150
                            refine q_icmp_ne 236 dX12_readTurner_232 (by decide) (fun h1151 => ?_) (fun h1151 => ?_)
                            · skip
                              exfalso; exact om_1fa3e129 ov1140.1 h1150 h1151
                            · skip
                              have u1152 : huF gB gQ 901 0 (tkN gB (tkN gB (tkN gB (tkN gB (tkN gB (tkN gB (tkN gB (tkN gB (tkN gB (tkN gB (tkN gB (tkN gB gs)))))))))))) = v1144.toInt := by rw [← g449]; simp only [huF, ↓reduceIte]; exact om_61f48836 p36 w78 h479 h481 h483 p517 p518 p519 p520 p1094 p1093 b1103.2 b1103.1 ov1108.1 ov1108.2.1 p1129 ov1140.2.1 h1148
                              have u1152p : huP gB gQ 901 0 (tkN gB (tkN gB (tkN gB (tkN gB (tkN gB (tkN gB (tkN gB (tkN gB (tkN gB (tkN gB (tkN gB (tkN gB gs)))))))))))) = v1146.toInt := by rw [← g450]; simp only [huP, ↓reduceIte]; exact om_13a8c0f8 p36 w78 g461 b470.2 b470.1 h479 h481 h483 p518 p519 p521 p1094 p1093 b1103.2 b1103.1 ov1108.1 ov1108.2.2 p1129 ov1140.2.2 h1148
                              have eF := hF.eq
                              have eP := hP.eq
                              obtain ⟨v1153, c1154⟩ : ∃ v, I1123 a0 10 = v := ⟨_, rfl⟩
                              have b1155 := iv15_10 hS1132.1 ta0 c1154
                              obtain ⟨v1156, c1157⟩ : ∃ v, I1123 a0 11 = v := ⟨_, rfl⟩
                              obtain ⟨y1158, c1159⟩ : ∃ v, L1125 a0 15 = v := ⟨_, rfl⟩
                              obtain ⟨v1160, c1161⟩ : ∃ v, I1123 a0 12 = v := ⟨_, rfl⟩
                              exact tr_vret hZ dX12_readTurner_235 rfl (by decide) (by decide) (hq _ _ _ ⟨hS1132, (fun dr hd => (Option.some.inj (d2.symm.trans hd)) ▸ hO1139), (Or.inr (⟨(by (try rw [w76]); first | done | with_reducible assumption | exact om_914696b7 p520 ov1108.2.1 ov1140.2.1 u1152 eF), (by (try rw [w76]); (try rw [c1142]); first | done | with_reducible assumption | exact om_394b70a2 ov1140.1), (by (try rw [w76]); (try rw [c1145]); first | done | with_reducible assumption | exact om_e65b3146 p520 ov1108.2.1 ov1140.2.1 u1152 eF), (by (try rw [w76]); (try rw [c1147]); first | done | with_reducible assumption | exact om_9c29206b u1152p eP), trivial⟩)), trivial⟩)
                          · skip
                            exfalso; exact om_1952d64c ov1108.1 h1128.2 h1128.1 p1129 h1148
                        · skip
                          refine tr_aload_n dX12_readTurner_198 hl415 ?_
                          refine q_iconst dX12_readTurner_199 (by decide) ?_
                          intro v1162 h1163
                          refine q_callVv hE (M' := mX12_flaw) (as := [_]) dX12_readTurner_200 lk12_145 inX12_flaw seX12_flaw myX12_flaw (by decide) ⟨by decide, by decide⟩ rfl (kR15 hS492.1 ta0) (Nat.le_of_ble_eq_true rfl) rfl rfl (by decide) (by decide) (k_X12_flaw hS492.1 ta0 (by exact om_7e011daf h1163)) ?_
                          rintro cn' K' N' I1164 R1165 L1166 ⟨rfl, rfl, rfl, rfl, rfl, g1167, p1169, p1170, w1171, -⟩
                          have hS1172 := hS492.tr g1167 (by decide +kernel) (by decide +kernel)
                          have c1173 : I1164 a1 4 = v435 := (g1167.cell ta1 (by decide +kernel)).trans c493
                          have c1174 : I1164 a0 10 = v439 := (g1167.cell ta0 (by decide +kernel)).trans c494
                          have c1175 : I1164 a0 11 = v441 := (g1167.cell ta0 (by decide +kernel)).trans c495
                          have c1176 : I1164 a0 12 = v445 := (g1167.cell ta0 (by decide +kernel)).trans c496
                          have c1177 : I1164 a0 8 = v447 := (g1167.cell ta0 (by decide +kernel)).trans c497
                          obtain ⟨v1178, c1179⟩ : ∃ v, I1164 a0 9 = v := ⟨_, rfl⟩
                          have b1180 := iv15_9 hS1172.1 ta0 c1179
                          rw [c1179] at p1169
                          rw [c1177] at p1170
                          rw [c497] at p1170
                          have hO1181 : FrO 14 a1 T I0 I1164 := hO498.st g1167 (by decide +kernel)
                          have ov1182 := w1171.over (by rw [c1075]; exact om_394b70a2 p519)
                          obtain ⟨v1183, c1184⟩ : ∃ v, I1164 a0 9 = v := ⟨_, rfl⟩
                          have b1185 := iv15_9 hS1172.1 ta0 c1184
                          obtain ⟨v1186, c1187⟩ : ∃ v, I1164 a0 13 = v := ⟨_, rfl⟩
                          obtain ⟨v1188, c1189⟩ : ∃ v, I1164 a0 14 = v := ⟨_, rfl⟩
                          (try rw [c1184] at ov1182)
                          (try rw [c1187] at ov1182)
                          (try rw [c1189] at ov1182)
                          (try rw [c1075] at ov1182)
                          (try rw [c1078] at ov1182)
                          (try rw [c1080] at ov1182)
                          refine tr_aload_n dX12_readTurner_203 hl415 ?_
                          refine q_callVv hE (M' := mX12_goesOn) (as := []) dX12_readTurner_204 lk12_142 inX12_goesOn seX12_goesOn myX12_goesOn (by decide) ⟨by decide, by decide⟩ rfl (kR15 hS1172.1 ta0) (Nat.le_of_ble_eq_true rfl) rfl rfl (by decide) (by decide) (k_X12_goesOn hS1172.1 ta0) ?_
                          rintro cn' K' N' I1190 R1191 L1192 ⟨rfl, rfl, rfl, rfl, g1193, p1195, p1196, p1197, w1198, -⟩
                          have hS1199 := hS1172.tr g1193 (by decide +kernel) (by decide +kernel)
                          have c1200 : I1190 a1 4 = v435 := (g1193.cell ta1 (by decide +kernel)).trans c1173
                          have c1201 : I1190 a0 13 = v1186 := (g1193.cell ta0 (by decide +kernel)).trans c1187
                          have c1202 : I1190 a0 14 = v1188 := (g1193.cell ta0 (by decide +kernel)).trans c1189
                          obtain ⟨v1203, c1204⟩ : ∃ v, I1190 a0 9 = v := ⟨_, rfl⟩
                          have b1205 := iv15_9 hS1199.1 ta0 c1204
                          rw [c1184] at p1195
                          rw [c1204] at p1195
                          rw [c1184] at p1196
                          rw [c1204] at p1196
                          obtain ⟨v1206, c1207⟩ : ∃ v, I1190 a0 8 = v := ⟨_, rfl⟩
                          have b1208 := iv15_8 hS1199.1 ta0 c1207
                          rw [c1207] at p1197
                          rw [c1177] at p1197
                          rw [c1201] at p1197
                          rw [c1187] at p1197
                          have hO1209 : FrO 14 a1 T I0 I1190 := hO1181.st g1193 (by decide +kernel)
                          have ov1210 := w1198.over (by rw [c1184]; exact om_394b70a2 ov1182.1)
                          obtain ⟨v1211, c1212⟩ : ∃ v, I1190 a0 9 = v := ⟨_, rfl⟩
                          have b1213 := iv15_9 hS1199.1 ta0 c1212
                          obtain ⟨v1214, c1215⟩ : ∃ v, I1190 a0 13 = v := ⟨_, rfl⟩
                          obtain ⟨v1216, c1217⟩ : ∃ v, I1190 a0 14 = v := ⟨_, rfl⟩
                          (try rw [c1212] at ov1210)
                          (try rw [c1215] at ov1210)
                          (try rw [c1217] at ov1210)
                          (try rw [c1184] at ov1210)
                          (try rw [c1187] at ov1210)
                          (try rw [c1189] at ov1210)
                          refine tr_iload dX12_readTurner_207 hl422 ?_
                          refine q_iconst dX12_readTurner_209 (by decide) ?_
                          intro v1218 h1219
                          refine tr_iload dX12_readTurner_210 rfl ?_
                          refine q_ishlE dX12_readTurner_212 (by exact om_ee8a1e2d h1219) (by exact om_420d6f03 b35.2 b35.1 p36 w78 h479 h481 h483 p516 p518 h1086.2 h1086.1 h1087 ov1182.1 p1196 p1195 b1205.2 b1205.1) ?_
                          intro v1220 h1221
                          refine q_ior dX12_readTurner_213 ?_
                          intro v1222
                          refine tr_istore dX12_readTurner_214 (by decide) (by decide) ?_
                          refine tr_aload_n dX12_readTurner_216 hl415 ?_
                          refine q_bipush dX12_readTurner_217 (by decide +kernel) ?_
                          intro v1223 h1224
                          refine q_callVi hE (M' := mX12_eatsSign) (as := [_]) dX12_readTurner_219 lk12_221 inX12_eatsSign seX12_eatsSign myX12_eatsSign (by decide) ⟨by decide, by decide⟩ rfl (kR15 hS1199.1 ta0) (Nat.le_of_ble_eq_true rfl) rfl rfl (by decide) (by decide) (k_X12_eatsSign hS1199.1 ta0) ?_
                          rintro v1229 cn' K' N' I1225 R1226 L1227 ⟨rfl, rfl, rfl, rfl, g1228, h1230, p1231, p1232, w1233, -⟩
                          have hS1234 := hS1199.tr g1228 (by decide +kernel) (by decide +kernel)
                          have c1235 : I1225 a1 4 = v435 := (g1228.cell ta1 (by decide +kernel)).trans c1200
                          have c1236 : I1225 a0 13 = v1214 := (g1228.cell ta0 (by decide +kernel)).trans c1215
                          have c1237 : I1225 a0 14 = v1216 := (g1228.cell ta0 (by decide +kernel)).trans c1217
                          rw [c1212] at p1231
                          obtain ⟨v1238, c1239⟩ : ∃ v, I1225 a0 8 = v := ⟨_, rfl⟩
                          have b1240 := iv15_8 hS1234.1 ta0 c1239
                          rw [c1239] at p1232
                          rw [c1207] at p1232
                          have hO1241 : FrO 14 a1 T I0 I1225 := hO1209.st g1228 (by decide +kernel)
                          have ov1242 := w1233.over (by rw [c1212]; exact om_394b70a2 ov1210.1)
                          obtain ⟨v1243, c1244⟩ : ∃ v, I1225 a0 9 = v := ⟨_, rfl⟩
                          have b1245 := iv15_9 hS1234.1 ta0 c1244
                          obtain ⟨v1246, c1247⟩ : ∃ v, I1225 a0 13 = v := ⟨_, rfl⟩
                          obtain ⟨v1248, c1249⟩ : ∃ v, I1225 a0 14 = v := ⟨_, rfl⟩
                          (try rw [c1244] at ov1242)
                          (try rw [c1247] at ov1242)
                          (try rw [c1249] at ov1242)
                          (try rw [c1212] at ov1242)
                          (try rw [c1215] at ov1242)
                          (try rw [c1217] at ov1242)
                          refine tr_istore dX12_readTurner_222 (by decide) (by decide) ?_
                          refine tr_goto 159 dX12_readTurner_224 (by decide) ?_
                          refine tr_iload dX12_readTurner_159 rfl ?_
                          refine q_if_eq 227 dX12_readTurner_161 (by decide) (fun h1250 => ?_) (fun h1250 => ?_)
                          · skip
                            refine tr_aload_n dX12_readTurner_227 hl415 ?_
                            refine q_getI dX12_readTurner_228 fl12_99 (kR15 hS1234.1 ta0) c1244 ?_
                            refine q_iconst dX12_readTurner_231 (by decide) ?_
                            intro v1251 h1252
                            refine q_icmp_ne 236 dX12_readTurner_232 (by decide) (fun h1253 => ?_) (fun h1253 => ?_)
                            · skip
                              exfalso; exact om_1fa3e129 ov1242.1 h1252 h1253
                            · skip
                              have u1254 : huF gB gQ 901 0 (tkN gB (tkN gB (tkN gB (tkN gB (tkN gB (tkN gB (tkN gB (tkN gB (tkN gB (tkN gB (tkN gB (tkN gB gs)))))))))))) = v1246.toInt := by rw [← g449]; simp only [huF, ↓reduceIte]; exact om_95a84672 p36 w78 h479 h481 h483 p517 p518 p520 h1086.2 h1086.1 h1087 ov1182.1 ov1182.2.1 p1196 p1195 b1205.2 b1205.1 ov1210.1 ov1210.2.1 p1231 ov1242.2.1 h1250
                              have u1254p : huP gB gQ 901 0 (tkN gB (tkN gB (tkN gB (tkN gB (tkN gB (tkN gB (tkN gB (tkN gB (tkN gB (tkN gB (tkN gB (tkN gB gs)))))))))))) = v1248.toInt := by rw [← g450]; simp only [huP, ↓reduceIte]; exact om_5e85b86c p36 w78 g461 b470.2 b470.1 h479 h481 h483 p518 p521 h1086.2 h1086.1 h1087 ov1182.1 ov1182.2.2 p1196 p1195 b1205.2 b1205.1 ov1210.1 ov1210.2.2 p1231 ov1242.2.2 h1250
                              have eF := hF.eq
                              have eP := hP.eq
                              obtain ⟨v1255, c1256⟩ : ∃ v, I1225 a0 10 = v := ⟨_, rfl⟩
                              have b1257 := iv15_10 hS1234.1 ta0 c1256
                              obtain ⟨v1258, c1259⟩ : ∃ v, I1225 a0 11 = v := ⟨_, rfl⟩
                              obtain ⟨y1260, c1261⟩ : ∃ v, L1227 a0 15 = v := ⟨_, rfl⟩
                              obtain ⟨v1262, c1263⟩ : ∃ v, I1225 a0 12 = v := ⟨_, rfl⟩
                              exact tr_vret hZ dX12_readTurner_235 rfl (by decide) (by decide) (hq _ _ _ ⟨hS1234, (fun dr hd => (Option.some.inj (d2.symm.trans hd)) ▸ hO1241), (Or.inr (⟨(by (try rw [w76]); first | done | with_reducible assumption | exact om_1968f7bb p520 ov1182.2.1 ov1210.2.1 ov1242.2.1 u1254 eF), (by (try rw [w76]); (try rw [c1244]); first | done | with_reducible assumption | exact om_394b70a2 ov1242.1), (by (try rw [w76]); (try rw [c1247]); first | done | with_reducible assumption | exact om_6d0ba9c8 p520 ov1182.2.1 ov1210.2.1 ov1242.2.1 u1254 eF), (by (try rw [w76]); (try rw [c1249]); first | done | with_reducible assumption | exact om_9c29206b u1254p eP), trivial⟩)), trivial⟩)
                          · skip
                            exfalso; exact om_1952d64c ov1210.1 h1230.2 h1230.1 p1231 h1250
            exact lp466 _ _ v409 v411 I364 L366 ((tkN gB (tkN gB (tkN gB (tkN gB (tkN gB (tkN gB (tkN gB (tkN gB (tkN gB (tkN gB (tkN gB (tkN gB gs))))))))))))) (901) (0) v392 v45 v394 v397 v400 y402 v404 v406 hl0 hl1 hl3 rfl rfl rfl rfl rfl rfl hS372 hL390 hM391 hO374 c393 c373 c395 c398 c401 c403 c405 c407 (by first | rfl | (congr 1; omega) | (congr 2 <;> omega)) (by first | rfl | (congr 1; omega) | (congr 2 <;> omega)) (by first | rfl | (congr 1; omega) | (congr 2 <;> omega)) (by exact om_acd7a85a p48) (by exact om_ee8a1e2d h412) (by exact om_29f55913 h410) (by exact om_46b0a402) (by exact om_366b5763) (by exact om_ecff893b p380 b399.2 b399.1) (by exact om_26539cac p109 p178 p247 p316 p377) (by exact om_acd7a85a p378) (by exact om_fc4b6669 p379) (by exact om_acd7a85a p380) (by exact om_acd7a85a p381) (by assumption) (by assumption) (by assumption) (Nat.lt_succ_self _)
          · skip
            obtain ⟨v1264, c1265⟩ : ∃ v, I364 a0 9 = v := ⟨_, rfl⟩
            have b1266 := iv15_9 hS372.1 ta0 c1265
            rw [c1265] at p387
            obtain ⟨v1267, c1268⟩ : ∃ v, I364 a0 13 = v := ⟨_, rfl⟩
            rw [c1268] at p388
            obtain ⟨v1269, c1270⟩ : ∃ v, I364 a0 14 = v := ⟨_, rfl⟩
            rw [c1270] at p389
            replace hF := hF.pos (by exact om_d9bcc258 p386)
            replace hP := hP.pos (by exact om_d9bcc258 p386)
            refine q_iconst dX12_readTurner_153 (by decide) ?_
            intro v1271 h1272
            refine tr_istore dX12_readTurner_154 (by decide) (by decide) ?_
            refine q_iconst dX12_readTurner_156 (by decide) ?_
            intro v1273 h1274
            refine tr_istore dX12_readTurner_157 (by decide) (by decide) ?_
            refine tr_iload dX12_readTurner_159 rfl ?_
            refine q_if_eq 227 dX12_readTurner_161 (by decide) (fun h1275 => ?_) (fun h1275 => ?_)
            · skip
              exfalso; exact om_3624102b h1274 h1275
            · skip
              refine tr_aload_n dX12_readTurner_164 hl0 ?_
              refine q_getI dX12_readTurner_165 fl12_99 (kR15 hS372.1 ta0) c1265 ?_
              refine q_iconst dX12_readTurner_168 (by decide) ?_
              intro v1276 h1277
              refine q_icmp_eq 227 dX12_readTurner_169 (by decide) (fun h1278 => ?_) (fun h1278 => ?_)
              · skip
                refine tr_aload_n dX12_readTurner_227 hl0 ?_
                refine q_getI dX12_readTurner_228 fl12_99 (kR15 hS372.1 ta0) c1265 ?_
                refine q_iconst dX12_readTurner_231 (by decide) ?_
                intro v1279 h1280
                refine q_icmp_ne 236 dX12_readTurner_232 (by decide) (fun h1281 => ?_) (fun h1281 => ?_)
                · skip
                  exfalso; exact om_1fa3e129 p387 h1280 h1281
                · skip
                  have eF := hF.eq
                  have eP := hP.eq
                  obtain ⟨v1282, c1283⟩ : ∃ v, I364 a0 10 = v := ⟨_, rfl⟩
                  have b1284 := iv15_10 hS372.1 ta0 c1283
                  obtain ⟨v1285, c1286⟩ : ∃ v, I364 a0 11 = v := ⟨_, rfl⟩
                  obtain ⟨y1287, c1288⟩ : ∃ v, L366 a0 15 = v := ⟨_, rfl⟩
                  obtain ⟨v1289, c1290⟩ : ∃ v, I364 a0 12 = v := ⟨_, rfl⟩
                  obtain ⟨v1291, c1292⟩ : ∃ v, I364 a0 8 = v := ⟨_, rfl⟩
                  have b1293 := iv15_8 hS372.1 ta0 c1292
                  exact tr_vret hZ dX12_readTurner_235 rfl (by decide) (by decide) (hq _ _ _ ⟨hS372, (fun dr hd => (Option.some.inj (d2.symm.trans hd)) ▸ hO374), (Or.inr (⟨(by (try rw [w76]); first | done | with_reducible assumption | exact om_7fac24c5 eF), (by (try rw [w76]); (try rw [c1265]); first | done | with_reducible assumption | omega), (by (try rw [w76]); (try rw [c1268]); first | done | with_reducible assumption | exact om_3345b898 p388 eF), (by (try rw [w76]); (try rw [c1270]); first | done | with_reducible assumption | exact om_2757374c p389 eP), trivial⟩)), trivial⟩)
              · skip
                exfalso; exact om_1fa3e129 p387 h1277 h1278
        · skip
          obtain ⟨v1294, c1295⟩ : ∃ v, I299 a0 9 = v := ⟨_, rfl⟩
          have b1296 := iv15_9 hS307.1 ta0 c1295
          rw [c1295] at p327
          obtain ⟨v1297, c1298⟩ : ∃ v, I299 a0 13 = v := ⟨_, rfl⟩
          rw [c1298] at p328
          obtain ⟨v1299, c1300⟩ : ∃ v, I299 a0 14 = v := ⟨_, rfl⟩
          rw [c1300] at p329
          replace hF := hF.pos (by exact om_86ff7bc6 p326)
          replace hP := hP.pos (by exact om_86ff7bc6 p326)
          refine tr_istore dX12_readTurner_145 (by decide) (by decide) ?_
          refine sf_oT147 hE hZ hS307.1 (gB) ta0 (by (try rw [c1295]); first | done | with_reducible assumption | omega) ⟨_, d2⟩ hl0 hl1 hl3 rfl rfl rfl rfl ?_
          rintro I1301 R1302 L1303 ⟨g1304, p1305, p1306, p1307, -⟩
          obtain rfl : R0 = R1302 := funext fun a => funext fun j => (g1304.2.2 a j (wm_no rfl)).symm
          have hS1308 := hS307.tr g1304 (by decide +kernel) (by decide +kernel)
          have c1309 : I1301 a1 4 = v45 := (g1304.cell ta1 (by decide +kernel)).trans c308
          have hO1310 : FrO 14 a1 T I0 I1301 := hO309.st g1304 (by decide +kernel)
          obtain ⟨v1311, c1312⟩ : ∃ v, I1301 a0 9 = v := ⟨_, rfl⟩
          have b1313 := iv15_9 hS1308.1 ta0 c1312
          rw [c1312] at p1305
          obtain ⟨v1314, c1315⟩ : ∃ v, I1301 a0 13 = v := ⟨_, rfl⟩
          rw [c1315] at p1306
          rw [c1298] at p1306
          obtain ⟨v1316, c1317⟩ : ∃ v, I1301 a0 14 = v := ⟨_, rfl⟩
          rw [c1317] at p1307
          rw [c1300] at p1307
          have eF := hF.eq
          have eP := hP.eq
          obtain ⟨v1318, c1319⟩ : ∃ v, I1301 a0 10 = v := ⟨_, rfl⟩
          have b1320 := iv15_10 hS1308.1 ta0 c1319
          obtain ⟨v1321, c1322⟩ : ∃ v, I1301 a0 11 = v := ⟨_, rfl⟩
          obtain ⟨y1323, c1324⟩ : ∃ v, L1303 a0 15 = v := ⟨_, rfl⟩
          obtain ⟨v1325, c1326⟩ : ∃ v, I1301 a0 12 = v := ⟨_, rfl⟩
          obtain ⟨v1327, c1328⟩ : ∃ v, I1301 a0 8 = v := ⟨_, rfl⟩
          have b1329 := iv15_8 hS1308.1 ta0 c1328
          exact hq _ _ _ ⟨hS1308, (fun dr hd => (Option.some.inj (d2.symm.trans hd)) ▸ hO1310), (Or.inr (⟨(by first | done | with_reducible assumption | exact om_7fac24c5 eF), (by (try rw [c1312]); first | done | with_reducible assumption | omega), (by (try rw [c1315]); first | done | with_reducible assumption | exact om_9adad658 p328 p1306 eF), (by (try rw [c1317]); first | done | with_reducible assumption | exact om_3998a42e p329 p1307 eP), trivial⟩)), trivial⟩
        · skip
          obtain ⟨v1330, c1331⟩ : ∃ v, I299 a0 9 = v := ⟨_, rfl⟩
          have b1332 := iv15_9 hS307.1 ta0 c1331
          rw [c1331] at p334
          obtain ⟨v1333, c1334⟩ : ∃ v, I299 a0 13 = v := ⟨_, rfl⟩
          rw [c1334] at p335
          obtain ⟨v1335, c1336⟩ : ∃ v, I299 a0 14 = v := ⟨_, rfl⟩
          rw [c1336] at p336
          replace hF := hF.neg (by exact om_f8dd5453 p331 p332)
          replace hP := hP.neg (by exact om_f8dd5453 p331 p332)
          replace hF := hF.pos (by exact om_73cc8e29 p333)
          replace hP := hP.pos (by exact om_73cc8e29 p333)
          refine tr_istore dX12_readTurner_145 (by decide) (by decide) ?_
          refine sf_oT147 hE hZ hS307.1 (gB) ta0 (by (try rw [c1331]); first | done | with_reducible assumption | omega) ⟨_, d2⟩ hl0 hl1 hl3 rfl rfl rfl rfl ?_
          rintro I1337 R1338 L1339 ⟨g1340, p1341, p1342, p1343, -⟩
          obtain rfl : R0 = R1338 := funext fun a => funext fun j => (g1340.2.2 a j (wm_no rfl)).symm
          have hS1344 := hS307.tr g1340 (by decide +kernel) (by decide +kernel)
          have c1345 : I1337 a1 4 = v45 := (g1340.cell ta1 (by decide +kernel)).trans c308
          have hO1346 : FrO 14 a1 T I0 I1337 := hO309.st g1340 (by decide +kernel)
          obtain ⟨v1347, c1348⟩ : ∃ v, I1337 a0 9 = v := ⟨_, rfl⟩
          have b1349 := iv15_9 hS1344.1 ta0 c1348
          rw [c1348] at p1341
          obtain ⟨v1350, c1351⟩ : ∃ v, I1337 a0 13 = v := ⟨_, rfl⟩
          rw [c1351] at p1342
          rw [c1334] at p1342
          obtain ⟨v1352, c1353⟩ : ∃ v, I1337 a0 14 = v := ⟨_, rfl⟩
          rw [c1353] at p1343
          rw [c1336] at p1343
          have eF := hF.eq
          have eP := hP.eq
          obtain ⟨v1354, c1355⟩ : ∃ v, I1337 a0 10 = v := ⟨_, rfl⟩
          have b1356 := iv15_10 hS1344.1 ta0 c1355
          obtain ⟨v1357, c1358⟩ : ∃ v, I1337 a0 11 = v := ⟨_, rfl⟩
          obtain ⟨y1359, c1360⟩ : ∃ v, L1339 a0 15 = v := ⟨_, rfl⟩
          obtain ⟨v1361, c1362⟩ : ∃ v, I1337 a0 12 = v := ⟨_, rfl⟩
          obtain ⟨v1363, c1364⟩ : ∃ v, I1337 a0 8 = v := ⟨_, rfl⟩
          have b1365 := iv15_8 hS1344.1 ta0 c1364
          exact hq _ _ _ ⟨hS1344, (fun dr hd => (Option.some.inj (d2.symm.trans hd)) ▸ hO1346), (Or.inr (⟨(by first | done | with_reducible assumption | exact om_7fac24c5 eF), (by (try rw [c1348]); first | done | with_reducible assumption | omega), (by (try rw [c1351]); first | done | with_reducible assumption | exact om_9adad658 p335 p1342 eF), (by (try rw [c1353]); first | done | with_reducible assumption | exact om_3998a42e p336 p1343 eP), trivial⟩)), trivial⟩
        · skip
          obtain ⟨v1366, c1367⟩ : ∃ v, I299 a0 9 = v := ⟨_, rfl⟩
          have b1368 := iv15_9 hS307.1 ta0 c1367
          rw [c1367] at p342
          obtain ⟨v1369, c1370⟩ : ∃ v, I299 a0 13 = v := ⟨_, rfl⟩
          rw [c1370] at p343
          obtain ⟨v1371, c1372⟩ : ∃ v, I299 a0 14 = v := ⟨_, rfl⟩
          rw [c1372] at p344
          replace hF := hF.neg (by exact om_f8dd5453 p338 p339)
          replace hP := hP.neg (by exact om_f8dd5453 p338 p339)
          replace hF := hF.neg (by exact om_10ed11b5 p340)
          replace hP := hP.neg (by exact om_10ed11b5 p340)
          replace hF := hF.pos (by exact om_696db0e9 h296 h298 p341)
          replace hP := hP.pos (by exact om_696db0e9 h296 h298 p341)
          refine tr_istore dX12_readTurner_145 (by decide) (by decide) ?_
          refine sf_oT147 hE hZ hS307.1 (gB) ta0 (by (try rw [c1367]); first | done | with_reducible assumption | omega) ⟨_, d2⟩ hl0 hl1 hl3 rfl rfl rfl rfl ?_
          rintro I1373 R1374 L1375 ⟨g1376, p1377, p1378, p1379, -⟩
          obtain rfl : R0 = R1374 := funext fun a => funext fun j => (g1376.2.2 a j (wm_no rfl)).symm
          have hS1380 := hS307.tr g1376 (by decide +kernel) (by decide +kernel)
          have c1381 : I1373 a1 4 = v45 := (g1376.cell ta1 (by decide +kernel)).trans c308
          have hO1382 : FrO 14 a1 T I0 I1373 := hO309.st g1376 (by decide +kernel)
          obtain ⟨v1383, c1384⟩ : ∃ v, I1373 a0 9 = v := ⟨_, rfl⟩
          have b1385 := iv15_9 hS1380.1 ta0 c1384
          rw [c1384] at p1377
          obtain ⟨v1386, c1387⟩ : ∃ v, I1373 a0 13 = v := ⟨_, rfl⟩
          rw [c1387] at p1378
          rw [c1370] at p1378
          obtain ⟨v1388, c1389⟩ : ∃ v, I1373 a0 14 = v := ⟨_, rfl⟩
          rw [c1389] at p1379
          rw [c1372] at p1379
          have eF := hF.eq
          have eP := hP.eq
          obtain ⟨v1390, c1391⟩ : ∃ v, I1373 a0 10 = v := ⟨_, rfl⟩
          have b1392 := iv15_10 hS1380.1 ta0 c1391
          obtain ⟨v1393, c1394⟩ : ∃ v, I1373 a0 11 = v := ⟨_, rfl⟩
          obtain ⟨y1395, c1396⟩ : ∃ v, L1375 a0 15 = v := ⟨_, rfl⟩
          obtain ⟨v1397, c1398⟩ : ∃ v, I1373 a0 12 = v := ⟨_, rfl⟩
          obtain ⟨v1399, c1400⟩ : ∃ v, I1373 a0 8 = v := ⟨_, rfl⟩
          have b1401 := iv15_8 hS1380.1 ta0 c1400
          exact hq _ _ _ ⟨hS1380, (fun dr hd => (Option.some.inj (d2.symm.trans hd)) ▸ hO1382), (Or.inr (⟨(by first | done | with_reducible assumption | exact om_7b84bd42 eF), (by (try rw [c1384]); first | done | with_reducible assumption | omega), (by (try rw [c1387]); first | done | with_reducible assumption | exact om_4510ffdb p343 p1378 eF), (by (try rw [c1389]); first | done | with_reducible assumption | exact om_3998a42e p344 p1379 eP), trivial⟩)), trivial⟩
      · skip
        obtain ⟨v1402, c1403⟩ : ∃ v, I230 a0 9 = v := ⟨_, rfl⟩
        have b1404 := iv15_9 hS238.1 ta0 c1403
        rw [c1403] at p258
        obtain ⟨v1405, c1406⟩ : ∃ v, I230 a0 13 = v := ⟨_, rfl⟩
        rw [c1406] at p259
        obtain ⟨v1407, c1408⟩ : ∃ v, I230 a0 14 = v := ⟨_, rfl⟩
        rw [c1408] at p260
        replace hF := hF.pos (by exact om_c04a00fc p257)
        replace hP := hP.pos (by exact om_c04a00fc p257)
        refine tr_istore dX12_readTurner_133 (by decide) (by decide) ?_
        refine sf_oT135 hE hZ hS238.1 (gB) ta0 (by (try rw [c1403]); first | done | with_reducible assumption | omega) ⟨_, d2⟩ hl0 hl1 hl3 rfl rfl rfl ?_
        rintro I1409 R1410 L1411 ⟨g1412, p1413, p1414, p1415, -⟩
        obtain rfl : R0 = R1410 := funext fun a => funext fun j => (g1412.2.2 a j (wm_no rfl)).symm
        have hS1416 := hS238.tr g1412 (by decide +kernel) (by decide +kernel)
        have c1417 : I1409 a1 4 = v45 := (g1412.cell ta1 (by decide +kernel)).trans c239
        have hO1418 : FrO 14 a1 T I0 I1409 := hO240.st g1412 (by decide +kernel)
        obtain ⟨v1419, c1420⟩ : ∃ v, I1409 a0 9 = v := ⟨_, rfl⟩
        have b1421 := iv15_9 hS1416.1 ta0 c1420
        rw [c1420] at p1413
        obtain ⟨v1422, c1423⟩ : ∃ v, I1409 a0 13 = v := ⟨_, rfl⟩
        rw [c1423] at p1414
        rw [c1406] at p1414
        obtain ⟨v1424, c1425⟩ : ∃ v, I1409 a0 14 = v := ⟨_, rfl⟩
        rw [c1425] at p1415
        rw [c1408] at p1415
        have eF := hF.eq
        have eP := hP.eq
        obtain ⟨v1426, c1427⟩ : ∃ v, I1409 a0 10 = v := ⟨_, rfl⟩
        have b1428 := iv15_10 hS1416.1 ta0 c1427
        obtain ⟨v1429, c1430⟩ : ∃ v, I1409 a0 11 = v := ⟨_, rfl⟩
        obtain ⟨y1431, c1432⟩ : ∃ v, L1411 a0 15 = v := ⟨_, rfl⟩
        obtain ⟨v1433, c1434⟩ : ∃ v, I1409 a0 12 = v := ⟨_, rfl⟩
        obtain ⟨v1435, c1436⟩ : ∃ v, I1409 a0 8 = v := ⟨_, rfl⟩
        have b1437 := iv15_8 hS1416.1 ta0 c1436
        exact hq _ _ _ ⟨hS1416, (fun dr hd => (Option.some.inj (d2.symm.trans hd)) ▸ hO1418), (Or.inr (⟨(by first | done | with_reducible assumption | exact om_7fac24c5 eF), (by (try rw [c1420]); first | done | with_reducible assumption | omega), (by (try rw [c1423]); first | done | with_reducible assumption | exact om_9adad658 p259 p1414 eF), (by (try rw [c1425]); first | done | with_reducible assumption | exact om_3998a42e p260 p1415 eP), trivial⟩)), trivial⟩
      · skip
        obtain ⟨v1438, c1439⟩ : ∃ v, I230 a0 9 = v := ⟨_, rfl⟩
        have b1440 := iv15_9 hS238.1 ta0 c1439
        rw [c1439] at p265
        obtain ⟨v1441, c1442⟩ : ∃ v, I230 a0 13 = v := ⟨_, rfl⟩
        rw [c1442] at p266
        obtain ⟨v1443, c1444⟩ : ∃ v, I230 a0 14 = v := ⟨_, rfl⟩
        rw [c1444] at p267
        replace hF := hF.neg (by exact om_6653c81a p262 p263)
        replace hP := hP.neg (by exact om_6653c81a p262 p263)
        replace hF := hF.pos (by exact om_73cc8e29 p264)
        replace hP := hP.pos (by exact om_73cc8e29 p264)
        refine tr_istore dX12_readTurner_133 (by decide) (by decide) ?_
        refine sf_oT135 hE hZ hS238.1 (gB) ta0 (by (try rw [c1439]); first | done | with_reducible assumption | omega) ⟨_, d2⟩ hl0 hl1 hl3 rfl rfl rfl ?_
        rintro I1445 R1446 L1447 ⟨g1448, p1449, p1450, p1451, -⟩
        obtain rfl : R0 = R1446 := funext fun a => funext fun j => (g1448.2.2 a j (wm_no rfl)).symm
        have hS1452 := hS238.tr g1448 (by decide +kernel) (by decide +kernel)
        have c1453 : I1445 a1 4 = v45 := (g1448.cell ta1 (by decide +kernel)).trans c239
        have hO1454 : FrO 14 a1 T I0 I1445 := hO240.st g1448 (by decide +kernel)
        obtain ⟨v1455, c1456⟩ : ∃ v, I1445 a0 9 = v := ⟨_, rfl⟩
        have b1457 := iv15_9 hS1452.1 ta0 c1456
        rw [c1456] at p1449
        obtain ⟨v1458, c1459⟩ : ∃ v, I1445 a0 13 = v := ⟨_, rfl⟩
        rw [c1459] at p1450
        rw [c1442] at p1450
        obtain ⟨v1460, c1461⟩ : ∃ v, I1445 a0 14 = v := ⟨_, rfl⟩
        rw [c1461] at p1451
        rw [c1444] at p1451
        have eF := hF.eq
        have eP := hP.eq
        obtain ⟨v1462, c1463⟩ : ∃ v, I1445 a0 10 = v := ⟨_, rfl⟩
        have b1464 := iv15_10 hS1452.1 ta0 c1463
        obtain ⟨v1465, c1466⟩ : ∃ v, I1445 a0 11 = v := ⟨_, rfl⟩
        obtain ⟨y1467, c1468⟩ : ∃ v, L1447 a0 15 = v := ⟨_, rfl⟩
        obtain ⟨v1469, c1470⟩ : ∃ v, I1445 a0 12 = v := ⟨_, rfl⟩
        obtain ⟨v1471, c1472⟩ : ∃ v, I1445 a0 8 = v := ⟨_, rfl⟩
        have b1473 := iv15_8 hS1452.1 ta0 c1472
        exact hq _ _ _ ⟨hS1452, (fun dr hd => (Option.some.inj (d2.symm.trans hd)) ▸ hO1454), (Or.inr (⟨(by first | done | with_reducible assumption | exact om_7fac24c5 eF), (by (try rw [c1456]); first | done | with_reducible assumption | omega), (by (try rw [c1459]); first | done | with_reducible assumption | exact om_9adad658 p266 p1450 eF), (by (try rw [c1461]); first | done | with_reducible assumption | exact om_3998a42e p267 p1451 eP), trivial⟩)), trivial⟩
      · skip
        obtain ⟨v1474, c1475⟩ : ∃ v, I230 a0 9 = v := ⟨_, rfl⟩
        have b1476 := iv15_9 hS238.1 ta0 c1475
        rw [c1475] at p273
        obtain ⟨v1477, c1478⟩ : ∃ v, I230 a0 13 = v := ⟨_, rfl⟩
        rw [c1478] at p274
        obtain ⟨v1479, c1480⟩ : ∃ v, I230 a0 14 = v := ⟨_, rfl⟩
        rw [c1480] at p275
        replace hF := hF.neg (by exact om_6653c81a p269 p270)
        replace hP := hP.neg (by exact om_6653c81a p269 p270)
        replace hF := hF.neg (by exact om_10ed11b5 p271)
        replace hP := hP.neg (by exact om_10ed11b5 p271)
        replace hF := hF.pos (by exact om_18ef04d2 h227 h229 p272)
        replace hP := hP.pos (by exact om_18ef04d2 h227 h229 p272)
        refine tr_istore dX12_readTurner_133 (by decide) (by decide) ?_
        refine sf_oT135 hE hZ hS238.1 (gB) ta0 (by (try rw [c1475]); first | done | with_reducible assumption | omega) ⟨_, d2⟩ hl0 hl1 hl3 rfl rfl rfl ?_
        rintro I1481 R1482 L1483 ⟨g1484, p1485, p1486, p1487, -⟩
        obtain rfl : R0 = R1482 := funext fun a => funext fun j => (g1484.2.2 a j (wm_no rfl)).symm
        have hS1488 := hS238.tr g1484 (by decide +kernel) (by decide +kernel)
        have c1489 : I1481 a1 4 = v45 := (g1484.cell ta1 (by decide +kernel)).trans c239
        have hO1490 : FrO 14 a1 T I0 I1481 := hO240.st g1484 (by decide +kernel)
        obtain ⟨v1491, c1492⟩ : ∃ v, I1481 a0 9 = v := ⟨_, rfl⟩
        have b1493 := iv15_9 hS1488.1 ta0 c1492
        rw [c1492] at p1485
        obtain ⟨v1494, c1495⟩ : ∃ v, I1481 a0 13 = v := ⟨_, rfl⟩
        rw [c1495] at p1486
        rw [c1478] at p1486
        obtain ⟨v1496, c1497⟩ : ∃ v, I1481 a0 14 = v := ⟨_, rfl⟩
        rw [c1497] at p1487
        rw [c1480] at p1487
        have eF := hF.eq
        have eP := hP.eq
        obtain ⟨v1498, c1499⟩ : ∃ v, I1481 a0 10 = v := ⟨_, rfl⟩
        have b1500 := iv15_10 hS1488.1 ta0 c1499
        obtain ⟨v1501, c1502⟩ : ∃ v, I1481 a0 11 = v := ⟨_, rfl⟩
        obtain ⟨y1503, c1504⟩ : ∃ v, L1483 a0 15 = v := ⟨_, rfl⟩
        obtain ⟨v1505, c1506⟩ : ∃ v, I1481 a0 12 = v := ⟨_, rfl⟩
        obtain ⟨v1507, c1508⟩ : ∃ v, I1481 a0 8 = v := ⟨_, rfl⟩
        have b1509 := iv15_8 hS1488.1 ta0 c1508
        exact hq _ _ _ ⟨hS1488, (fun dr hd => (Option.some.inj (d2.symm.trans hd)) ▸ hO1490), (Or.inr (⟨(by first | done | with_reducible assumption | exact om_7b84bd42 eF), (by (try rw [c1492]); first | done | with_reducible assumption | omega), (by (try rw [c1495]); first | done | with_reducible assumption | exact om_4510ffdb p274 p1486 eF), (by (try rw [c1497]); first | done | with_reducible assumption | exact om_3998a42e p275 p1487 eP), trivial⟩)), trivial⟩
    · skip
      obtain ⟨v1510, c1511⟩ : ∃ v, I161 a0 9 = v := ⟨_, rfl⟩
      have b1512 := iv15_9 hS169.1 ta0 c1511
      rw [c1511] at p189
      obtain ⟨v1513, c1514⟩ : ∃ v, I161 a0 13 = v := ⟨_, rfl⟩
      rw [c1514] at p190
      obtain ⟨v1515, c1516⟩ : ∃ v, I161 a0 14 = v := ⟨_, rfl⟩
      rw [c1516] at p191
      replace hF := hF.pos (by exact om_5c733ef2 p188)
      replace hP := hP.pos (by exact om_5c733ef2 p188)
      refine tr_istore dX12_readTurner_121 (by decide) (by decide) ?_
      refine sf_oT123 hE hZ hS169.1 (gB) ta0 (by (try rw [c1511]); first | done | with_reducible assumption | omega) ⟨_, d2⟩ hl0 hl1 hl3 rfl rfl ?_
      rintro I1517 R1518 L1519 ⟨g1520, p1521, p1522, p1523, -⟩
      obtain rfl : R0 = R1518 := funext fun a => funext fun j => (g1520.2.2 a j (wm_no rfl)).symm
      have hS1524 := hS169.tr g1520 (by decide +kernel) (by decide +kernel)
      have c1525 : I1517 a1 4 = v45 := (g1520.cell ta1 (by decide +kernel)).trans c170
      have hO1526 : FrO 14 a1 T I0 I1517 := hO171.st g1520 (by decide +kernel)
      obtain ⟨v1527, c1528⟩ : ∃ v, I1517 a0 9 = v := ⟨_, rfl⟩
      have b1529 := iv15_9 hS1524.1 ta0 c1528
      rw [c1528] at p1521
      obtain ⟨v1530, c1531⟩ : ∃ v, I1517 a0 13 = v := ⟨_, rfl⟩
      rw [c1531] at p1522
      rw [c1514] at p1522
      obtain ⟨v1532, c1533⟩ : ∃ v, I1517 a0 14 = v := ⟨_, rfl⟩
      rw [c1533] at p1523
      rw [c1516] at p1523
      have eF := hF.eq
      have eP := hP.eq
      obtain ⟨v1534, c1535⟩ : ∃ v, I1517 a0 10 = v := ⟨_, rfl⟩
      have b1536 := iv15_10 hS1524.1 ta0 c1535
      obtain ⟨v1537, c1538⟩ : ∃ v, I1517 a0 11 = v := ⟨_, rfl⟩
      obtain ⟨y1539, c1540⟩ : ∃ v, L1519 a0 15 = v := ⟨_, rfl⟩
      obtain ⟨v1541, c1542⟩ : ∃ v, I1517 a0 12 = v := ⟨_, rfl⟩
      obtain ⟨v1543, c1544⟩ : ∃ v, I1517 a0 8 = v := ⟨_, rfl⟩
      have b1545 := iv15_8 hS1524.1 ta0 c1544
      exact hq _ _ _ ⟨hS1524, (fun dr hd => (Option.some.inj (d2.symm.trans hd)) ▸ hO1526), (Or.inr (⟨(by first | done | with_reducible assumption | exact om_7fac24c5 eF), (by (try rw [c1528]); first | done | with_reducible assumption | omega), (by (try rw [c1531]); first | done | with_reducible assumption | exact om_9adad658 p190 p1522 eF), (by (try rw [c1533]); first | done | with_reducible assumption | exact om_3998a42e p191 p1523 eP), trivial⟩)), trivial⟩
    · skip
      obtain ⟨v1546, c1547⟩ : ∃ v, I161 a0 9 = v := ⟨_, rfl⟩
      have b1548 := iv15_9 hS169.1 ta0 c1547
      rw [c1547] at p196
      obtain ⟨v1549, c1550⟩ : ∃ v, I161 a0 13 = v := ⟨_, rfl⟩
      rw [c1550] at p197
      obtain ⟨v1551, c1552⟩ : ∃ v, I161 a0 14 = v := ⟨_, rfl⟩
      rw [c1552] at p198
      replace hF := hF.neg (by exact om_04941ac6 p193 p194)
      replace hP := hP.neg (by exact om_04941ac6 p193 p194)
      replace hF := hF.pos (by exact om_73cc8e29 p195)
      replace hP := hP.pos (by exact om_73cc8e29 p195)
      refine tr_istore dX12_readTurner_121 (by decide) (by decide) ?_
      refine sf_oT123 hE hZ hS169.1 (gB) ta0 (by (try rw [c1547]); first | done | with_reducible assumption | omega) ⟨_, d2⟩ hl0 hl1 hl3 rfl rfl ?_
      rintro I1553 R1554 L1555 ⟨g1556, p1557, p1558, p1559, -⟩
      obtain rfl : R0 = R1554 := funext fun a => funext fun j => (g1556.2.2 a j (wm_no rfl)).symm
      have hS1560 := hS169.tr g1556 (by decide +kernel) (by decide +kernel)
      have c1561 : I1553 a1 4 = v45 := (g1556.cell ta1 (by decide +kernel)).trans c170
      have hO1562 : FrO 14 a1 T I0 I1553 := hO171.st g1556 (by decide +kernel)
      obtain ⟨v1563, c1564⟩ : ∃ v, I1553 a0 9 = v := ⟨_, rfl⟩
      have b1565 := iv15_9 hS1560.1 ta0 c1564
      rw [c1564] at p1557
      obtain ⟨v1566, c1567⟩ : ∃ v, I1553 a0 13 = v := ⟨_, rfl⟩
      rw [c1567] at p1558
      rw [c1550] at p1558
      obtain ⟨v1568, c1569⟩ : ∃ v, I1553 a0 14 = v := ⟨_, rfl⟩
      rw [c1569] at p1559
      rw [c1552] at p1559
      have eF := hF.eq
      have eP := hP.eq
      obtain ⟨v1570, c1571⟩ : ∃ v, I1553 a0 10 = v := ⟨_, rfl⟩
      have b1572 := iv15_10 hS1560.1 ta0 c1571
      obtain ⟨v1573, c1574⟩ : ∃ v, I1553 a0 11 = v := ⟨_, rfl⟩
      obtain ⟨y1575, c1576⟩ : ∃ v, L1555 a0 15 = v := ⟨_, rfl⟩
      obtain ⟨v1577, c1578⟩ : ∃ v, I1553 a0 12 = v := ⟨_, rfl⟩
      obtain ⟨v1579, c1580⟩ : ∃ v, I1553 a0 8 = v := ⟨_, rfl⟩
      have b1581 := iv15_8 hS1560.1 ta0 c1580
      exact hq _ _ _ ⟨hS1560, (fun dr hd => (Option.some.inj (d2.symm.trans hd)) ▸ hO1562), (Or.inr (⟨(by first | done | with_reducible assumption | exact om_7fac24c5 eF), (by (try rw [c1564]); first | done | with_reducible assumption | omega), (by (try rw [c1567]); first | done | with_reducible assumption | exact om_9adad658 p197 p1558 eF), (by (try rw [c1569]); first | done | with_reducible assumption | exact om_3998a42e p198 p1559 eP), trivial⟩)), trivial⟩
    · skip
      obtain ⟨v1582, c1583⟩ : ∃ v, I161 a0 9 = v := ⟨_, rfl⟩
      have b1584 := iv15_9 hS169.1 ta0 c1583
      rw [c1583] at p204
      obtain ⟨v1585, c1586⟩ : ∃ v, I161 a0 13 = v := ⟨_, rfl⟩
      rw [c1586] at p205
      obtain ⟨v1587, c1588⟩ : ∃ v, I161 a0 14 = v := ⟨_, rfl⟩
      rw [c1588] at p206
      replace hF := hF.neg (by exact om_04941ac6 p200 p201)
      replace hP := hP.neg (by exact om_04941ac6 p200 p201)
      replace hF := hF.neg (by exact om_10ed11b5 p202)
      replace hP := hP.neg (by exact om_10ed11b5 p202)
      replace hF := hF.pos (by exact om_ecc016f6 p32 w77 h89 h91 p103 h158 h160 p203)
      replace hP := hP.pos (by exact om_ecc016f6 p32 w77 h89 h91 p103 h158 h160 p203)
      refine tr_istore dX12_readTurner_121 (by decide) (by decide) ?_
      refine sf_oT123 hE hZ hS169.1 (gB) ta0 (by (try rw [c1583]); first | done | with_reducible assumption | omega) ⟨_, d2⟩ hl0 hl1 hl3 rfl rfl ?_
      rintro I1589 R1590 L1591 ⟨g1592, p1593, p1594, p1595, -⟩
      obtain rfl : R0 = R1590 := funext fun a => funext fun j => (g1592.2.2 a j (wm_no rfl)).symm
      have hS1596 := hS169.tr g1592 (by decide +kernel) (by decide +kernel)
      have c1597 : I1589 a1 4 = v45 := (g1592.cell ta1 (by decide +kernel)).trans c170
      have hO1598 : FrO 14 a1 T I0 I1589 := hO171.st g1592 (by decide +kernel)
      obtain ⟨v1599, c1600⟩ : ∃ v, I1589 a0 9 = v := ⟨_, rfl⟩
      have b1601 := iv15_9 hS1596.1 ta0 c1600
      rw [c1600] at p1593
      obtain ⟨v1602, c1603⟩ : ∃ v, I1589 a0 13 = v := ⟨_, rfl⟩
      rw [c1603] at p1594
      rw [c1586] at p1594
      obtain ⟨v1604, c1605⟩ : ∃ v, I1589 a0 14 = v := ⟨_, rfl⟩
      rw [c1605] at p1595
      rw [c1588] at p1595
      have eF := hF.eq
      have eP := hP.eq
      obtain ⟨v1606, c1607⟩ : ∃ v, I1589 a0 10 = v := ⟨_, rfl⟩
      have b1608 := iv15_10 hS1596.1 ta0 c1607
      obtain ⟨v1609, c1610⟩ : ∃ v, I1589 a0 11 = v := ⟨_, rfl⟩
      obtain ⟨y1611, c1612⟩ : ∃ v, L1591 a0 15 = v := ⟨_, rfl⟩
      obtain ⟨v1613, c1614⟩ : ∃ v, I1589 a0 12 = v := ⟨_, rfl⟩
      obtain ⟨v1615, c1616⟩ : ∃ v, I1589 a0 8 = v := ⟨_, rfl⟩
      have b1617 := iv15_8 hS1596.1 ta0 c1616
      exact hq _ _ _ ⟨hS1596, (fun dr hd => (Option.some.inj (d2.symm.trans hd)) ▸ hO1598), (Or.inr (⟨(by first | done | with_reducible assumption | exact om_7b84bd42 eF), (by (try rw [c1600]); first | done | with_reducible assumption | omega), (by (try rw [c1603]); first | done | with_reducible assumption | exact om_4510ffdb p205 p1594 eF), (by (try rw [c1605]); first | done | with_reducible assumption | exact om_3998a42e p206 p1595 eP), trivial⟩)), trivial⟩
  · skip
    obtain ⟨v1618, c1619⟩ : ∃ v, I92 a0 9 = v := ⟨_, rfl⟩
    have b1620 := iv15_9 hS100.1 ta0 c1619
    rw [c1619] at p120
    obtain ⟨v1621, c1622⟩ : ∃ v, I92 a0 13 = v := ⟨_, rfl⟩
    rw [c1622] at p121
    obtain ⟨v1623, c1624⟩ : ∃ v, I92 a0 14 = v := ⟨_, rfl⟩
    rw [c1624] at p122
    replace hF := hF.pos (by exact om_8b230aaf p119)
    replace hP := hP.pos (by exact om_8b230aaf p119)
    refine tr_istore dX12_readTurner_101 (by decide) (by decide) ?_
    refine sf_oT103 hE hZ hS100.1 (gB) ta0 (by (try rw [c1619]); first | done | with_reducible assumption | omega) ⟨_, d2⟩ hl0 hl1 hl3 rfl ?_
    rintro I1625 R1626 L1627 ⟨g1628, p1629, p1630, p1631, -⟩
    obtain rfl : R0 = R1626 := funext fun a => funext fun j => (g1628.2.2 a j (wm_no rfl)).symm
    have hS1632 := hS100.tr g1628 (by decide +kernel) (by decide +kernel)
    have c1633 : I1625 a1 4 = v45 := (g1628.cell ta1 (by decide +kernel)).trans c101
    have hO1634 : FrO 14 a1 T I0 I1625 := hO102.st g1628 (by decide +kernel)
    obtain ⟨v1635, c1636⟩ : ∃ v, I1625 a0 9 = v := ⟨_, rfl⟩
    have b1637 := iv15_9 hS1632.1 ta0 c1636
    rw [c1636] at p1629
    obtain ⟨v1638, c1639⟩ : ∃ v, I1625 a0 13 = v := ⟨_, rfl⟩
    rw [c1639] at p1630
    rw [c1622] at p1630
    obtain ⟨v1640, c1641⟩ : ∃ v, I1625 a0 14 = v := ⟨_, rfl⟩
    rw [c1641] at p1631
    rw [c1624] at p1631
    have eF := hF.eq
    have eP := hP.eq
    obtain ⟨v1642, c1643⟩ : ∃ v, I1625 a0 10 = v := ⟨_, rfl⟩
    have b1644 := iv15_10 hS1632.1 ta0 c1643
    obtain ⟨v1645, c1646⟩ : ∃ v, I1625 a0 11 = v := ⟨_, rfl⟩
    obtain ⟨y1647, c1648⟩ : ∃ v, L1627 a0 15 = v := ⟨_, rfl⟩
    obtain ⟨v1649, c1650⟩ : ∃ v, I1625 a0 12 = v := ⟨_, rfl⟩
    obtain ⟨v1651, c1652⟩ : ∃ v, I1625 a0 8 = v := ⟨_, rfl⟩
    have b1653 := iv15_8 hS1632.1 ta0 c1652
    exact hq _ _ _ ⟨hS1632, (fun dr hd => (Option.some.inj (d2.symm.trans hd)) ▸ hO1634), (Or.inr (⟨(by first | done | with_reducible assumption | exact om_7fac24c5 eF), (by (try rw [c1636]); first | done | with_reducible assumption | omega), (by (try rw [c1639]); first | done | with_reducible assumption | exact om_9adad658 p121 p1630 eF), (by (try rw [c1641]); first | done | with_reducible assumption | exact om_8e6888af p11 p122 p1631 eP), trivial⟩)), trivial⟩
  · skip
    obtain ⟨v1654, c1655⟩ : ∃ v, I92 a0 9 = v := ⟨_, rfl⟩
    have b1656 := iv15_9 hS100.1 ta0 c1655
    rw [c1655] at p127
    obtain ⟨v1657, c1658⟩ : ∃ v, I92 a0 13 = v := ⟨_, rfl⟩
    rw [c1658] at p128
    obtain ⟨v1659, c1660⟩ : ∃ v, I92 a0 14 = v := ⟨_, rfl⟩
    rw [c1660] at p129
    replace hF := hF.neg (by exact om_58a59c28 p124 p125)
    replace hP := hP.neg (by exact om_58a59c28 p124 p125)
    replace hF := hF.pos (by exact om_73cc8e29 p126)
    replace hP := hP.pos (by exact om_73cc8e29 p126)
    refine tr_istore dX12_readTurner_101 (by decide) (by decide) ?_
    refine sf_oT103 hE hZ hS100.1 (gB) ta0 (by (try rw [c1655]); first | done | with_reducible assumption | omega) ⟨_, d2⟩ hl0 hl1 hl3 rfl ?_
    rintro I1661 R1662 L1663 ⟨g1664, p1665, p1666, p1667, -⟩
    obtain rfl : R0 = R1662 := funext fun a => funext fun j => (g1664.2.2 a j (wm_no rfl)).symm
    have hS1668 := hS100.tr g1664 (by decide +kernel) (by decide +kernel)
    have c1669 : I1661 a1 4 = v45 := (g1664.cell ta1 (by decide +kernel)).trans c101
    have hO1670 : FrO 14 a1 T I0 I1661 := hO102.st g1664 (by decide +kernel)
    obtain ⟨v1671, c1672⟩ : ∃ v, I1661 a0 9 = v := ⟨_, rfl⟩
    have b1673 := iv15_9 hS1668.1 ta0 c1672
    rw [c1672] at p1665
    obtain ⟨v1674, c1675⟩ : ∃ v, I1661 a0 13 = v := ⟨_, rfl⟩
    rw [c1675] at p1666
    rw [c1658] at p1666
    obtain ⟨v1676, c1677⟩ : ∃ v, I1661 a0 14 = v := ⟨_, rfl⟩
    rw [c1677] at p1667
    rw [c1660] at p1667
    have eF := hF.eq
    have eP := hP.eq
    obtain ⟨v1678, c1679⟩ : ∃ v, I1661 a0 10 = v := ⟨_, rfl⟩
    have b1680 := iv15_10 hS1668.1 ta0 c1679
    obtain ⟨v1681, c1682⟩ : ∃ v, I1661 a0 11 = v := ⟨_, rfl⟩
    obtain ⟨y1683, c1684⟩ : ∃ v, L1663 a0 15 = v := ⟨_, rfl⟩
    obtain ⟨v1685, c1686⟩ : ∃ v, I1661 a0 12 = v := ⟨_, rfl⟩
    obtain ⟨v1687, c1688⟩ : ∃ v, I1661 a0 8 = v := ⟨_, rfl⟩
    have b1689 := iv15_8 hS1668.1 ta0 c1688
    exact hq _ _ _ ⟨hS1668, (fun dr hd => (Option.some.inj (d2.symm.trans hd)) ▸ hO1670), (Or.inr (⟨(by first | done | with_reducible assumption | exact om_7fac24c5 eF), (by (try rw [c1672]); first | done | with_reducible assumption | omega), (by (try rw [c1675]); first | done | with_reducible assumption | exact om_9adad658 p128 p1666 eF), (by (try rw [c1677]); first | done | with_reducible assumption | exact om_3998a42e p129 p1667 eP), trivial⟩)), trivial⟩
  · skip
    obtain ⟨v1690, c1691⟩ : ∃ v, I92 a0 9 = v := ⟨_, rfl⟩
    have b1692 := iv15_9 hS100.1 ta0 c1691
    rw [c1691] at p135
    obtain ⟨v1693, c1694⟩ : ∃ v, I92 a0 13 = v := ⟨_, rfl⟩
    rw [c1694] at p136
    obtain ⟨v1695, c1696⟩ : ∃ v, I92 a0 14 = v := ⟨_, rfl⟩
    rw [c1696] at p137
    replace hF := hF.neg (by exact om_58a59c28 p131 p132)
    replace hP := hP.neg (by exact om_58a59c28 p131 p132)
    replace hF := hF.neg (by exact om_10ed11b5 p133)
    replace hP := hP.neg (by exact om_10ed11b5 p133)
    replace hF := hF.pos (by exact om_41eb13e5 p32 w77 h87 h89 h91 p134)
    replace hP := hP.pos (by exact om_41eb13e5 p32 w77 h87 h89 h91 p134)
    refine tr_istore dX12_readTurner_101 (by decide) (by decide) ?_
    refine sf_oT103 hE hZ hS100.1 (gB) ta0 (by (try rw [c1691]); first | done | with_reducible assumption | omega) ⟨_, d2⟩ hl0 hl1 hl3 rfl ?_
    rintro I1697 R1698 L1699 ⟨g1700, p1701, p1702, p1703, -⟩
    obtain rfl : R0 = R1698 := funext fun a => funext fun j => (g1700.2.2 a j (wm_no rfl)).symm
    have hS1704 := hS100.tr g1700 (by decide +kernel) (by decide +kernel)
    have c1705 : I1697 a1 4 = v45 := (g1700.cell ta1 (by decide +kernel)).trans c101
    have hO1706 : FrO 14 a1 T I0 I1697 := hO102.st g1700 (by decide +kernel)
    obtain ⟨v1707, c1708⟩ : ∃ v, I1697 a0 9 = v := ⟨_, rfl⟩
    have b1709 := iv15_9 hS1704.1 ta0 c1708
    rw [c1708] at p1701
    obtain ⟨v1710, c1711⟩ : ∃ v, I1697 a0 13 = v := ⟨_, rfl⟩
    rw [c1711] at p1702
    rw [c1694] at p1702
    obtain ⟨v1712, c1713⟩ : ∃ v, I1697 a0 14 = v := ⟨_, rfl⟩
    rw [c1713] at p1703
    rw [c1696] at p1703
    have eF := hF.eq
    have eP := hP.eq
    obtain ⟨v1714, c1715⟩ : ∃ v, I1697 a0 10 = v := ⟨_, rfl⟩
    have b1716 := iv15_10 hS1704.1 ta0 c1715
    obtain ⟨v1717, c1718⟩ : ∃ v, I1697 a0 11 = v := ⟨_, rfl⟩
    obtain ⟨y1719, c1720⟩ : ∃ v, L1699 a0 15 = v := ⟨_, rfl⟩
    obtain ⟨v1721, c1722⟩ : ∃ v, I1697 a0 12 = v := ⟨_, rfl⟩
    obtain ⟨v1723, c1724⟩ : ∃ v, I1697 a0 8 = v := ⟨_, rfl⟩
    have b1725 := iv15_8 hS1704.1 ta0 c1724
    exact hq _ _ _ ⟨hS1704, (fun dr hd => (Option.some.inj (d2.symm.trans hd)) ▸ hO1706), (Or.inr (⟨(by first | done | with_reducible assumption | exact om_7b84bd42 eF), (by (try rw [c1708]); first | done | with_reducible assumption | omega), (by (try rw [c1711]); first | done | with_reducible assumption | exact om_4510ffdb p136 p1702 eF), (by (try rw [c1713]); first | done | with_reducible assumption | exact om_3998a42e p137 p1703 eP), trivial⟩)), trivial⟩
def wif_oT74 : List Nat := [968, 969, 970, 971, 972, 973, 974]
def wrf_oT74 : List Nat := []
def wlf_oT74 : List Nat := []
set_option maxHeartbeats 4000000 in
theorem sf_oT74 {X : cz_X} (hE : cz_env X) {T : Nat → Nat} {cn : Nat} {K N : Nat → Nat} {I0 : cz_I} {R0 : cz_R} {L0 : cz_L} {Q : cz_Q} (hZ : cz_Z X mX12_readTurner Q) (hW0 : Wf T cn K N I0 R0 0) (gB : cz_B) {a0 : Nat} (ta0 : T a0 = 15) {y1 : Int64} {x2 : Int32} (pre0 : (I0 a0 9).toInt = 5) (nn4 : ∃ b, R0 a0 4 = some b) {ls : Nat → Option Value} (hl0 : ls 0 = some (.ref a0)) (hl1 : ls 1 = some (.long y1)) (hl3 : ls 3 = some (.int x2)) (hq : ∀ (I' : cz_I) (R' : cz_R) (L' : cz_L), St T cn K N 0 wif_oT74 wrf_oT74 I0 R0 I' R' ∧ ((I' a0 9).toInt = 5) ∧ ((I' a0 13).toInt = (I0 a0 13).toInt) ∧ ((I' a0 14).toInt = (I0 a0 14).toInt) ∧ True → Q none cn K N I' R' L') : Tr X mX12_readTurner 74 ls [] cn K N I0 R0 L0 0 0 := by
  have hS0 : St T cn K N 0 wif_oT74 wrf_oT74 I0 R0 I0 R0 := St.rf0 hW0
  have hL0 : LgS T wlf_oT74 L0 L0 := LgS.rf0
  obtain ⟨a1, d2⟩ := nn4
  have ta1 : T a1 = 14 := hW0.rsN ta0 rfl d2
  obtain ⟨v3, c4⟩ : ∃ v, I0 a0 9 = v := ⟨_, rfl⟩
  have b5 := iv15_9 hS0.1 ta0 c4
  have p6 := pre0
  rw [c4] at p6
  obtain ⟨v7, c8⟩ : ∃ v, I0 a0 13 = v := ⟨_, rfl⟩
  obtain ⟨v9, c10⟩ : ∃ v, I0 a0 14 = v := ⟨_, rfl⟩
  refine tr_iload_n dX12_readTurner_74 hl3 ?_
  refine q_iconst dX12_readTurner_75 (by decide) ?_
  intro v11 h12
  refine q_icmp_ne 84 dX12_readTurner_76 (by decide) (fun h13 => ?_) (fun h13 => ?_)
  · skip
    refine tr_aload_n dX12_readTurner_84 hl0 ?_
    refine tr_ldcwS dX12_readTurner_85 ld12_324 ?_
    refine q_iconst dX12_readTurner_88 (by decide) ?_
    intro v14 h15
    refine tr_aload_n dX12_readTurner_89 hl0 ?_
    refine tr_getR dX12_readTurner_90 fl12_188 (kR15 hS0.1 ta0) d2 ?_
    obtain ⟨v16, c17⟩ : ∃ v, I0 a1 0 = v := ⟨_, rfl⟩
    have b18 := iv14_0 hW0 ta1 c17
    refine q_getI dX12_readTurner_93 fl12_192 (kR14 hS0.1 ta1) c17 ?_
    refine q_iconst dX12_readTurner_96 (by decide) ?_
    intro v19 h20
    refine q_isubE dX12_readTurner_97 (by intro j1 j2 j3 j4; exact om_c6626f59 b18.2 b18.1 h20) ?_
    intro v21 h22
    refine q_callVi hE (M' := mX12_readPart) (as := [_, _, _]) dX12_readTurner_98 lk12_249 inX12_readPart seX12_readPart myX12_readPart (by decide) ⟨by decide, by decide⟩ rfl (kR15 hS0.1 ta0) (Nat.le_of_ble_eq_true rfl) rfl rfl (by decide) (by decide) (k_X12_readPart hS0.1 ta0 (by decide)) ?_
    rintro v27 cn' K' N' I23 R24 L25 ⟨rfl, rfl, rfl, rfl, g26, p28, w29, -⟩
    have hS30 := hS0.tr g26 (by decide +kernel) (by decide +kernel)
    have b31 : 0 ≤ v27.toInt ∧ v27.toInt ≤ 239 := by exact om_62c0eb21 h15 b18.2 b18.1 h20 h22 p28
    clear p28
    have ov32 := w29.over (by rw [c4]; exact om_394b70a2 p6)
    obtain ⟨v33, c34⟩ : ∃ v, I23 a0 9 = v := ⟨_, rfl⟩
    have b35 := iv15_9 hS30.1 ta0 c34
    obtain ⟨v36, c37⟩ : ∃ v, I23 a0 13 = v := ⟨_, rfl⟩
    obtain ⟨v38, c39⟩ : ∃ v, I23 a0 14 = v := ⟨_, rfl⟩
    (try rw [c34] at ov32)
    (try rw [c37] at ov32)
    (try rw [c39] at ov32)
    (try rw [c4] at ov32)
    (try rw [c8] at ov32)
    (try rw [c10] at ov32)
    refine tr_istore dX12_readTurner_101 (by decide) (by decide) ?_
    refine sf_oT103 hE hZ hS30.1 (gB) ta0 (by (try rw [c34]); first | done | with_reducible assumption | exact om_394b70a2 ov32.1) ⟨_, d2⟩ hl0 hl1 hl3 rfl ?_
    rintro I40 R41 L42 ⟨g43, p44, p45, p46, -⟩
    obtain rfl : R0 = R41 := funext fun a => funext fun j => (g43.2.2 a j (wm_no rfl)).symm
    have hS47 := hS30.tr g43 (by decide +kernel) (by decide +kernel)
    obtain ⟨v48, c49⟩ : ∃ v, I40 a0 9 = v := ⟨_, rfl⟩
    have b50 := iv15_9 hS47.1 ta0 c49
    rw [c49] at p44
    obtain ⟨v51, c52⟩ : ∃ v, I40 a0 13 = v := ⟨_, rfl⟩
    rw [c52] at p45
    rw [c37] at p45
    obtain ⟨v53, c54⟩ : ∃ v, I40 a0 14 = v := ⟨_, rfl⟩
    rw [c54] at p46
    rw [c39] at p46
    exact hq _ _ _ ⟨hS47, (by (try rw [c49]); first | done | with_reducible assumption | omega), (by (try rw [c52]); (try rw [c8]); first | done | with_reducible assumption | exact om_9fa72578 ov32.2.1 p45), (by (try rw [c54]); (try rw [c10]); first | done | with_reducible assumption | exact om_9fa72578 ov32.2.2 p46), trivial⟩
  · skip
    refine tr_aload_n dX12_readTurner_79 hl0 ?_
    refine q_iconst dX12_readTurner_80 (by decide) ?_
    intro v55 h56
    obtain ⟨v57, c58⟩ : ∃ v, I0 a0 8 = v := ⟨_, rfl⟩
    have b59 := iv15_8 hS0.1 ta0 c58
    refine q_callVv hE (M' := mX12_flaw) (as := [_]) dX12_readTurner_81 lk12_145 inX12_flaw seX12_flaw myX12_flaw (by decide) ⟨by decide, by decide⟩ rfl (kR15 hS0.1 ta0) (Nat.le_of_ble_eq_true rfl) rfl rfl (by decide) (by decide) (k_X12_flaw hS0.1 ta0 (by exact om_95922198 h56)) ?_
    rintro cn' K' N' I60 R61 L62 ⟨rfl, rfl, rfl, rfl, rfl, g63, p65, p66, w67, -⟩
    have hS68 := hS0.tr g63 (by decide +kernel) (by decide +kernel)
    have c69 : I60 a0 8 = v57 := (g63.cell ta0 (by decide +kernel)).trans c58
    obtain ⟨v70, c71⟩ : ∃ v, I60 a0 9 = v := ⟨_, rfl⟩
    have b72 := iv15_9 hS68.1 ta0 c71
    rw [c71] at p65
    rw [c69] at p66
    rw [c58] at p66
    have ov73 := w67.over (by rw [c4]; exact om_394b70a2 p6)
    obtain ⟨v74, c75⟩ : ∃ v, I60 a0 9 = v := ⟨_, rfl⟩
    have b76 := iv15_9 hS68.1 ta0 c75
    obtain ⟨v77, c78⟩ : ∃ v, I60 a0 13 = v := ⟨_, rfl⟩
    obtain ⟨v79, c80⟩ : ∃ v, I60 a0 14 = v := ⟨_, rfl⟩
    (try rw [c75] at ov73)
    (try rw [c78] at ov73)
    (try rw [c80] at ov73)
    (try rw [c4] at ov73)
    (try rw [c8] at ov73)
    (try rw [c10] at ov73)
    refine tr_aload_n dX12_readTurner_84 hl0 ?_
    refine tr_ldcwS dX12_readTurner_85 ld12_324 ?_
    refine q_iconst dX12_readTurner_88 (by decide) ?_
    intro v81 h82
    refine tr_aload_n dX12_readTurner_89 hl0 ?_
    refine tr_getR dX12_readTurner_90 fl12_188 (kR15 hS68.1 ta0) d2 ?_
    obtain ⟨v83, c84⟩ : ∃ v, I0 a1 0 = v := ⟨_, rfl⟩
    have b85 := iv14_0 hW0 ta1 c84
    refine q_getI dX12_readTurner_93 fl12_192 (kR14 hS68.1 ta1) ((hS68.cell ta1 (by decide +kernel)).trans c84) ?_
    refine q_iconst dX12_readTurner_96 (by decide) ?_
    intro v86 h87
    refine q_isubE dX12_readTurner_97 (by intro j1 j2 j3 j4; exact om_c6626f59 b85.2 b85.1 h87) ?_
    intro v88 h89
    refine q_callVi hE (M' := mX12_readPart) (as := [_, _, _]) dX12_readTurner_98 lk12_249 inX12_readPart seX12_readPart myX12_readPart (by decide) ⟨by decide, by decide⟩ rfl (kR15 hS68.1 ta0) (Nat.le_of_ble_eq_true rfl) rfl rfl (by decide) (by decide) (k_X12_readPart hS68.1 ta0 (by decide)) ?_
    rintro v94 cn' K' N' I90 R91 L92 ⟨rfl, rfl, rfl, rfl, g93, p95, w96, -⟩
    have hS97 := hS68.tr g93 (by decide +kernel) (by decide +kernel)
    have b98 : 0 ≤ v94.toInt ∧ v94.toInt ≤ 239 := by exact om_62c0eb21 h82 b85.2 b85.1 h87 h89 p95
    clear p95
    have ov99 := w96.over (by rw [c75]; exact om_394b70a2 ov73.1)
    obtain ⟨v100, c101⟩ : ∃ v, I90 a0 9 = v := ⟨_, rfl⟩
    have b102 := iv15_9 hS97.1 ta0 c101
    obtain ⟨v103, c104⟩ : ∃ v, I90 a0 13 = v := ⟨_, rfl⟩
    obtain ⟨v105, c106⟩ : ∃ v, I90 a0 14 = v := ⟨_, rfl⟩
    (try rw [c101] at ov99)
    (try rw [c104] at ov99)
    (try rw [c106] at ov99)
    (try rw [c75] at ov99)
    (try rw [c78] at ov99)
    (try rw [c80] at ov99)
    refine tr_istore dX12_readTurner_101 (by decide) (by decide) ?_
    refine sf_oT103 hE hZ hS97.1 (gB) ta0 (by (try rw [c101]); first | done | with_reducible assumption | exact om_394b70a2 ov99.1) ⟨_, d2⟩ hl0 hl1 hl3 rfl ?_
    rintro I107 R108 L109 ⟨g110, p111, p112, p113, -⟩
    obtain rfl : R0 = R108 := funext fun a => funext fun j => (g110.2.2 a j (wm_no rfl)).symm
    have hS114 := hS97.tr g110 (by decide +kernel) (by decide +kernel)
    obtain ⟨v115, c116⟩ : ∃ v, I107 a0 9 = v := ⟨_, rfl⟩
    have b117 := iv15_9 hS114.1 ta0 c116
    rw [c116] at p111
    obtain ⟨v118, c119⟩ : ∃ v, I107 a0 13 = v := ⟨_, rfl⟩
    rw [c119] at p112
    rw [c104] at p112
    obtain ⟨v120, c121⟩ : ∃ v, I107 a0 14 = v := ⟨_, rfl⟩
    rw [c121] at p113
    rw [c106] at p113
    exact hq _ _ _ ⟨hS114, (by (try rw [c116]); first | done | with_reducible assumption | omega), (by (try rw [c119]); (try rw [c8]); first | done | with_reducible assumption | exact om_1c22ab7e ov73.2.1 ov99.2.1 p112), (by (try rw [c121]); (try rw [c10]); first | done | with_reducible assumption | exact om_1c22ab7e ov73.2.2 ov99.2.2 p113), trivial⟩
def wif_oT17 : List Nat := [968, 969, 970, 971, 972, 973, 974]
def wrf_oT17 : List Nat := []
def wlf_oT17 : List Nat := []
set_option maxHeartbeats 4000000 in
theorem sf_oT17 {X : cz_X} (hE : cz_env X) {T : Nat → Nat} {cn : Nat} {K N : Nat → Nat} {I0 : cz_I} {R0 : cz_R} {L0 : cz_L} {Q : cz_Q} (hZ : cz_Z X mX12_readTurner Q) (hW0 : Wf T cn K N I0 R0 0) (gB : cz_B) {a0 : Nat} (ta0 : T a0 = 15) {y1 : Int64} (pre0 : (I0 a0 9).toInt = 5) (nn4 : ∃ b, R0 a0 4 = some b) {ls : Nat → Option Value} (hl0 : ls 0 = some (.ref a0)) (hl1 : ls 1 = some (.long y1)) (hq : ∀ (I' : cz_I) (R' : cz_R) (L' : cz_L), St T cn K N 0 wif_oT17 wrf_oT17 I0 R0 I' R' ∧ ((I' a0 9).toInt = 5) ∧ ((I' a0 13).toInt = (I0 a0 13).toInt) ∧ ((I' a0 14).toInt = (I0 a0 14).toInt) ∧ True → Q none cn K N I' R' L') : Tr X mX12_readTurner 17 ls [] cn K N I0 R0 L0 0 0 := by
  have hS0 : St T cn K N 0 wif_oT17 wrf_oT17 I0 R0 I0 R0 := St.rf0 hW0
  have hL0 : LgS T wlf_oT17 L0 L0 := LgS.rf0
  obtain ⟨a1, d2⟩ := nn4
  have ta1 : T a1 = 14 := hW0.rsN ta0 rfl d2
  obtain ⟨v3, c4⟩ : ∃ v, I0 a0 9 = v := ⟨_, rfl⟩
  have b5 := iv15_9 hS0.1 ta0 c4
  have p6 := pre0
  rw [c4] at p6
  obtain ⟨v7, c8⟩ : ∃ v, I0 a0 13 = v := ⟨_, rfl⟩
  obtain ⟨v9, c10⟩ : ∃ v, I0 a0 14 = v := ⟨_, rfl⟩
  refine tr_aload_n dX12_readTurner_17 hl0 ?_
  refine tr_ldcwS dX12_readTurner_18 ld12_318 ?_
  refine q_callVi hE (M' := mX12_eatsWord) (as := [_]) dX12_readTurner_21 lk12_290 inX12_eatsWord seX12_eatsWord myX12_eatsWord (by decide) ⟨by decide, by decide⟩ rfl (kR15 hS0.1 ta0) (Nat.le_of_ble_eq_true rfl) rfl rfl (by decide) (by decide) (k_X12_eatsWord hS0.1 ta0 (by decide)) ?_
  rintro v15 cn' K' N' I11 R12 L13 ⟨rfl, rfl, rfl, rfl, g14, h16, w17, -⟩
  have hS18 := hS0.tr g14 (by decide +kernel) (by decide +kernel)
  have c19 : I11 a0 13 = v7 := (g14.cell ta0 (by decide +kernel)).trans c8
  have c20 : I11 a0 14 = v9 := (g14.cell ta0 (by decide +kernel)).trans c10
  have ov21 := w17.over (by rw [c4]; exact om_394b70a2 p6)
  obtain ⟨v22, c23⟩ : ∃ v, I11 a0 9 = v := ⟨_, rfl⟩
  have b24 := iv15_9 hS18.1 ta0 c23
  obtain ⟨v25, c26⟩ : ∃ v, I11 a0 13 = v := ⟨_, rfl⟩
  obtain ⟨v27, c28⟩ : ∃ v, I11 a0 14 = v := ⟨_, rfl⟩
  (try rw [c23] at ov21)
  (try rw [c26] at ov21)
  (try rw [c28] at ov21)
  (try rw [c4] at ov21)
  (try rw [c8] at ov21)
  (try rw [c10] at ov21)
  refine q_if_eq 31 dX12_readTurner_24 (by decide) (fun h29 => ?_) (fun h29 => ?_)
  · skip
    refine tr_aload_n dX12_readTurner_31 hl0 ?_
    refine tr_ldcwS dX12_readTurner_32 ld12_320 ?_
    refine q_callVi hE (M' := mX12_eatsWord) (as := [_]) dX12_readTurner_35 lk12_290 inX12_eatsWord seX12_eatsWord myX12_eatsWord (by decide) ⟨by decide, by decide⟩ rfl (kR15 hS18.1 ta0) (Nat.le_of_ble_eq_true rfl) rfl rfl (by decide) (by decide) (k_X12_eatsWord hS18.1 ta0 (by decide)) ?_
    rintro v34 cn' K' N' I30 R31 L32 ⟨rfl, rfl, rfl, rfl, g33, h35, w36, -⟩
    have hS37 := hS18.tr g33 (by decide +kernel) (by decide +kernel)
    have c38 : I30 a0 13 = v25 := (g33.cell ta0 (by decide +kernel)).trans c26
    have c39 : I30 a0 14 = v27 := (g33.cell ta0 (by decide +kernel)).trans c28
    have ov40 := w36.over (by rw [c23]; exact om_394b70a2 ov21.1)
    obtain ⟨v41, c42⟩ : ∃ v, I30 a0 9 = v := ⟨_, rfl⟩
    have b43 := iv15_9 hS37.1 ta0 c42
    obtain ⟨v44, c45⟩ : ∃ v, I30 a0 13 = v := ⟨_, rfl⟩
    obtain ⟨v46, c47⟩ : ∃ v, I30 a0 14 = v := ⟨_, rfl⟩
    (try rw [c42] at ov40)
    (try rw [c45] at ov40)
    (try rw [c47] at ov40)
    (try rw [c23] at ov40)
    (try rw [c26] at ov40)
    (try rw [c28] at ov40)
    refine q_if_eq 45 dX12_readTurner_38 (by decide) (fun h48 => ?_) (fun h48 => ?_)
    · skip
      refine tr_aload_n dX12_readTurner_45 hl0 ?_
      refine tr_ldcwS dX12_readTurner_46 ld12_322 ?_
      refine q_callVi hE (M' := mX12_eatsWord) (as := [_]) dX12_readTurner_49 lk12_290 inX12_eatsWord seX12_eatsWord myX12_eatsWord (by decide) ⟨by decide, by decide⟩ rfl (kR15 hS37.1 ta0) (Nat.le_of_ble_eq_true rfl) rfl rfl (by decide) (by decide) (k_X12_eatsWord hS37.1 ta0 (by decide)) ?_
      rintro v53 cn' K' N' I49 R50 L51 ⟨rfl, rfl, rfl, rfl, g52, h54, w55, -⟩
      have hS56 := hS37.tr g52 (by decide +kernel) (by decide +kernel)
      have c57 : I49 a0 13 = v44 := (g52.cell ta0 (by decide +kernel)).trans c45
      have c58 : I49 a0 14 = v46 := (g52.cell ta0 (by decide +kernel)).trans c47
      have ov59 := w55.over (by rw [c42]; exact om_394b70a2 ov40.1)
      obtain ⟨v60, c61⟩ : ∃ v, I49 a0 9 = v := ⟨_, rfl⟩
      have b62 := iv15_9 hS56.1 ta0 c61
      obtain ⟨v63, c64⟩ : ∃ v, I49 a0 13 = v := ⟨_, rfl⟩
      obtain ⟨v65, c66⟩ : ∃ v, I49 a0 14 = v := ⟨_, rfl⟩
      (try rw [c61] at ov59)
      (try rw [c64] at ov59)
      (try rw [c66] at ov59)
      (try rw [c42] at ov59)
      (try rw [c45] at ov59)
      (try rw [c47] at ov59)
      refine q_if_eq 59 dX12_readTurner_52 (by decide) (fun h67 => ?_) (fun h67 => ?_)
      · skip
        refine tr_aload_n dX12_readTurner_59 hl0 ?_
        refine tr_ldcS dX12_readTurner_60 ld12_178 ?_
        refine q_callVi hE (M' := mX12_eatsWord) (as := [_]) dX12_readTurner_62 lk12_290 inX12_eatsWord seX12_eatsWord myX12_eatsWord (by decide) ⟨by decide, by decide⟩ rfl (kR15 hS56.1 ta0) (Nat.le_of_ble_eq_true rfl) rfl rfl (by decide) (by decide) (k_X12_eatsWord hS56.1 ta0 (by decide)) ?_
        rintro v72 cn' K' N' I68 R69 L70 ⟨rfl, rfl, rfl, rfl, g71, h73, w74, -⟩
        have hS75 := hS56.tr g71 (by decide +kernel) (by decide +kernel)
        have c76 : I68 a0 13 = v63 := (g71.cell ta0 (by decide +kernel)).trans c64
        have c77 : I68 a0 14 = v65 := (g71.cell ta0 (by decide +kernel)).trans c66
        have ov78 := w74.over (by rw [c61]; exact om_394b70a2 ov59.1)
        obtain ⟨v79, c80⟩ : ∃ v, I68 a0 9 = v := ⟨_, rfl⟩
        have b81 := iv15_9 hS75.1 ta0 c80
        obtain ⟨v82, c83⟩ : ∃ v, I68 a0 13 = v := ⟨_, rfl⟩
        obtain ⟨v84, c85⟩ : ∃ v, I68 a0 14 = v := ⟨_, rfl⟩
        (try rw [c80] at ov78)
        (try rw [c83] at ov78)
        (try rw [c85] at ov78)
        (try rw [c61] at ov78)
        (try rw [c64] at ov78)
        (try rw [c66] at ov78)
        refine q_if_eq 72 dX12_readTurner_65 (by decide) (fun h86 => ?_) (fun h86 => ?_)
        · skip
          refine q_iconst dX12_readTurner_72 (by decide) ?_
          intro v87 h88
          refine tr_istore_n dX12_readTurner_73 (by decide) (by decide) ?_
          refine sf_oT74 hE hZ hS75.1 (gB) ta0 (by (try rw [c80]); first | done | with_reducible assumption | exact om_394b70a2 ov78.1) ⟨_, d2⟩ hl0 hl1 rfl ?_
          rintro I89 R90 L91 ⟨g92, p93, p94, p95, -⟩
          obtain rfl : R0 = R90 := funext fun a => funext fun j => (g92.2.2 a j (wm_no rfl)).symm
          have hS96 := hS75.tr g92 (by decide +kernel) (by decide +kernel)
          obtain ⟨v97, c98⟩ : ∃ v, I89 a0 9 = v := ⟨_, rfl⟩
          have b99 := iv15_9 hS96.1 ta0 c98
          rw [c98] at p93
          obtain ⟨v100, c101⟩ : ∃ v, I89 a0 13 = v := ⟨_, rfl⟩
          rw [c101] at p94
          rw [c83] at p94
          obtain ⟨v102, c103⟩ : ∃ v, I89 a0 14 = v := ⟨_, rfl⟩
          rw [c103] at p95
          rw [c85] at p95
          exact hq _ _ _ ⟨hS96, (by (try rw [c98]); first | done | with_reducible assumption | omega), (by (try rw [c101]); (try rw [c8]); first | done | with_reducible assumption | exact om_26539cac ov21.2.1 ov40.2.1 ov59.2.1 ov78.2.1 p94), (by (try rw [c103]); (try rw [c10]); first | done | with_reducible assumption | exact om_26539cac ov21.2.2 ov40.2.2 ov59.2.2 ov78.2.2 p95), trivial⟩
        · skip
          refine q_iconst dX12_readTurner_68 (by decide) ?_
          intro v104 h105
          refine tr_goto 73 dX12_readTurner_69 (by decide) ?_
          refine tr_istore_n dX12_readTurner_73 (by decide) (by decide) ?_
          refine sf_oT74 hE hZ hS75.1 (gB) ta0 (by (try rw [c80]); first | done | with_reducible assumption | exact om_394b70a2 ov78.1) ⟨_, d2⟩ hl0 hl1 rfl ?_
          rintro I106 R107 L108 ⟨g109, p110, p111, p112, -⟩
          obtain rfl : R0 = R107 := funext fun a => funext fun j => (g109.2.2 a j (wm_no rfl)).symm
          have hS113 := hS75.tr g109 (by decide +kernel) (by decide +kernel)
          obtain ⟨v114, c115⟩ : ∃ v, I106 a0 9 = v := ⟨_, rfl⟩
          have b116 := iv15_9 hS113.1 ta0 c115
          rw [c115] at p110
          obtain ⟨v117, c118⟩ : ∃ v, I106 a0 13 = v := ⟨_, rfl⟩
          rw [c118] at p111
          rw [c83] at p111
          obtain ⟨v119, c120⟩ : ∃ v, I106 a0 14 = v := ⟨_, rfl⟩
          rw [c120] at p112
          rw [c85] at p112
          exact hq _ _ _ ⟨hS113, (by (try rw [c115]); first | done | with_reducible assumption | omega), (by (try rw [c118]); (try rw [c8]); first | done | with_reducible assumption | exact om_26539cac ov21.2.1 ov40.2.1 ov59.2.1 ov78.2.1 p111), (by (try rw [c120]); (try rw [c10]); first | done | with_reducible assumption | exact om_26539cac ov21.2.2 ov40.2.2 ov59.2.2 ov78.2.2 p112), trivial⟩
      · skip
        refine q_iconst dX12_readTurner_55 (by decide) ?_
        intro v121 h122
        refine tr_goto 73 dX12_readTurner_56 (by decide) ?_
        refine tr_istore_n dX12_readTurner_73 (by decide) (by decide) ?_
        refine sf_oT74 hE hZ hS56.1 (gB) ta0 (by (try rw [c61]); first | done | with_reducible assumption | exact om_394b70a2 ov59.1) ⟨_, d2⟩ hl0 hl1 rfl ?_
        rintro I123 R124 L125 ⟨g126, p127, p128, p129, -⟩
        obtain rfl : R0 = R124 := funext fun a => funext fun j => (g126.2.2 a j (wm_no rfl)).symm
        have hS130 := hS56.tr g126 (by decide +kernel) (by decide +kernel)
        obtain ⟨v131, c132⟩ : ∃ v, I123 a0 9 = v := ⟨_, rfl⟩
        have b133 := iv15_9 hS130.1 ta0 c132
        rw [c132] at p127
        obtain ⟨v134, c135⟩ : ∃ v, I123 a0 13 = v := ⟨_, rfl⟩
        rw [c135] at p128
        rw [c64] at p128
        obtain ⟨v136, c137⟩ : ∃ v, I123 a0 14 = v := ⟨_, rfl⟩
        rw [c137] at p129
        rw [c66] at p129
        exact hq _ _ _ ⟨hS130, (by (try rw [c132]); first | done | with_reducible assumption | omega), (by (try rw [c135]); (try rw [c8]); first | done | with_reducible assumption | exact om_751d021b ov21.2.1 ov40.2.1 ov59.2.1 p128), (by (try rw [c137]); (try rw [c10]); first | done | with_reducible assumption | exact om_751d021b ov21.2.2 ov40.2.2 ov59.2.2 p129), trivial⟩
    · skip
      refine q_iconst dX12_readTurner_41 (by decide) ?_
      intro v138 h139
      refine tr_goto 73 dX12_readTurner_42 (by decide) ?_
      refine tr_istore_n dX12_readTurner_73 (by decide) (by decide) ?_
      refine sf_oT74 hE hZ hS37.1 (gB) ta0 (by (try rw [c42]); first | done | with_reducible assumption | exact om_394b70a2 ov40.1) ⟨_, d2⟩ hl0 hl1 rfl ?_
      rintro I140 R141 L142 ⟨g143, p144, p145, p146, -⟩
      obtain rfl : R0 = R141 := funext fun a => funext fun j => (g143.2.2 a j (wm_no rfl)).symm
      have hS147 := hS37.tr g143 (by decide +kernel) (by decide +kernel)
      obtain ⟨v148, c149⟩ : ∃ v, I140 a0 9 = v := ⟨_, rfl⟩
      have b150 := iv15_9 hS147.1 ta0 c149
      rw [c149] at p144
      obtain ⟨v151, c152⟩ : ∃ v, I140 a0 13 = v := ⟨_, rfl⟩
      rw [c152] at p145
      rw [c45] at p145
      obtain ⟨v153, c154⟩ : ∃ v, I140 a0 14 = v := ⟨_, rfl⟩
      rw [c154] at p146
      rw [c47] at p146
      exact hq _ _ _ ⟨hS147, (by (try rw [c149]); first | done | with_reducible assumption | omega), (by (try rw [c152]); (try rw [c8]); first | done | with_reducible assumption | exact om_1c22ab7e ov21.2.1 ov40.2.1 p145), (by (try rw [c154]); (try rw [c10]); first | done | with_reducible assumption | exact om_1c22ab7e ov21.2.2 ov40.2.2 p146), trivial⟩
  · skip
    refine q_iconst dX12_readTurner_27 (by decide) ?_
    intro v155 h156
    refine tr_goto 73 dX12_readTurner_28 (by decide) ?_
    refine tr_istore_n dX12_readTurner_73 (by decide) (by decide) ?_
    refine sf_oT74 hE hZ hS18.1 (gB) ta0 (by (try rw [c23]); first | done | with_reducible assumption | exact om_394b70a2 ov21.1) ⟨_, d2⟩ hl0 hl1 rfl ?_
    rintro I157 R158 L159 ⟨g160, p161, p162, p163, -⟩
    obtain rfl : R0 = R158 := funext fun a => funext fun j => (g160.2.2 a j (wm_no rfl)).symm
    have hS164 := hS18.tr g160 (by decide +kernel) (by decide +kernel)
    obtain ⟨v165, c166⟩ : ∃ v, I157 a0 9 = v := ⟨_, rfl⟩
    have b167 := iv15_9 hS164.1 ta0 c166
    rw [c166] at p161
    obtain ⟨v168, c169⟩ : ∃ v, I157 a0 13 = v := ⟨_, rfl⟩
    rw [c169] at p162
    rw [c26] at p162
    obtain ⟨v170, c171⟩ : ∃ v, I157 a0 14 = v := ⟨_, rfl⟩
    rw [c171] at p163
    rw [c28] at p163
    exact hq _ _ _ ⟨hS164, (by (try rw [c166]); first | done | with_reducible assumption | omega), (by (try rw [c169]); (try rw [c8]); first | done | with_reducible assumption | exact om_9fa72578 ov21.2.1 p162), (by (try rw [c171]); (try rw [c10]); first | done | with_reducible assumption | exact om_9fa72578 ov21.2.2 p163), trivial⟩
def wif_oT12 : List Nat := [968, 969, 970, 971, 972, 973, 974]
def wrf_oT12 : List Nat := []
def wlf_oT12 : List Nat := []
set_option maxHeartbeats 4000000 in
theorem sf_oT12 {X : cz_X} (hE : cz_env X) {T : Nat → Nat} {cn : Nat} {K N : Nat → Nat} {I0 : cz_I} {R0 : cz_R} {L0 : cz_L} {Q : cz_Q} (hZ : cz_Z X mX12_readTurner Q) (hW0 : Wf T cn K N I0 R0 0) (gB : cz_B) {a0 : Nat} (ta0 : T a0 = 15) (pre0 : (I0 a0 9).toInt = 5) (nn4 : ∃ b, R0 a0 4 = some b) {ls : Nat → Option Value} (hl0 : ls 0 = some (.ref a0)) (hq : ∀ (I' : cz_I) (R' : cz_R) (L' : cz_L), St T cn K N 0 wif_oT12 wrf_oT12 I0 R0 I' R' ∧ ((I' a0 9).toInt = 5) ∧ ((I' a0 13).toInt = (I0 a0 13).toInt) ∧ ((I' a0 14).toInt = (I0 a0 14).toInt) ∧ True → Q none cn K N I' R' L') : Tr X mX12_readTurner 12 ls [] cn K N I0 R0 L0 0 0 := by
  have hS0 : St T cn K N 0 wif_oT12 wrf_oT12 I0 R0 I0 R0 := St.rf0 hW0
  have hL0 : LgS T wlf_oT12 L0 L0 := LgS.rf0
  obtain ⟨a1, d2⟩ := nn4
  have ta1 : T a1 = 14 := hW0.rsN ta0 rfl d2
  obtain ⟨v3, c4⟩ : ∃ v, I0 a0 9 = v := ⟨_, rfl⟩
  have b5 := iv15_9 hS0.1 ta0 c4
  have p6 := pre0
  rw [c4] at p6
  obtain ⟨v7, c8⟩ : ∃ v, I0 a0 13 = v := ⟨_, rfl⟩
  obtain ⟨v9, c10⟩ : ∃ v, I0 a0 14 = v := ⟨_, rfl⟩
  refine tr_aload_n dX12_readTurner_12 hl0 ?_
  refine q_callVl hE (M' := mX12_readFresh) (as := []) dX12_readTurner_13 lk12_285 inX12_readFresh seX12_readFresh myX12_readFresh (by decide) ⟨by decide, by decide⟩ rfl (kR15 hS0.1 ta0) (Nat.le_of_ble_eq_true rfl) rfl rfl (by decide) (by decide) (k_X12_readFresh hS0.1 ta0 ⟨_, d2⟩) ?_
  rintro y15 cn' K' N' I11 R12 L13 ⟨rfl, rfl, rfl, rfl, g14, w16, -⟩
  have hS17 := hS0.tr g14 (by decide +kernel) (by decide +kernel)
  have ov18 := w16.over (by rw [c4]; exact om_394b70a2 p6)
  obtain ⟨v19, c20⟩ : ∃ v, I11 a0 9 = v := ⟨_, rfl⟩
  have b21 := iv15_9 hS17.1 ta0 c20
  obtain ⟨v22, c23⟩ : ∃ v, I11 a0 13 = v := ⟨_, rfl⟩
  obtain ⟨v24, c25⟩ : ∃ v, I11 a0 14 = v := ⟨_, rfl⟩
  (try rw [c20] at ov18)
  (try rw [c23] at ov18)
  (try rw [c25] at ov18)
  (try rw [c4] at ov18)
  (try rw [c8] at ov18)
  (try rw [c10] at ov18)
  refine tr_lstore_n dX12_readTurner_16 (by decide) (by decide) (by decide) ?_
  refine sf_oT17 hE hZ hS17.1 (gB) ta0 (by (try rw [c20]); first | done | with_reducible assumption | exact om_394b70a2 ov18.1) ⟨_, d2⟩ hl0 rfl ?_
  rintro I26 R27 L28 ⟨g29, p30, p31, p32, -⟩
  obtain rfl : R0 = R27 := funext fun a => funext fun j => (g29.2.2 a j (wm_no rfl)).symm
  have hS33 := hS17.tr g29 (by decide +kernel) (by decide +kernel)
  obtain ⟨v34, c35⟩ : ∃ v, I26 a0 9 = v := ⟨_, rfl⟩
  have b36 := iv15_9 hS33.1 ta0 c35
  rw [c35] at p30
  obtain ⟨v37, c38⟩ : ∃ v, I26 a0 13 = v := ⟨_, rfl⟩
  rw [c38] at p31
  rw [c23] at p31
  obtain ⟨v39, c40⟩ : ∃ v, I26 a0 14 = v := ⟨_, rfl⟩
  rw [c40] at p32
  rw [c25] at p32
  exact hq _ _ _ ⟨hS33, (by (try rw [c35]); first | done | with_reducible assumption | omega), (by (try rw [c38]); (try rw [c8]); first | done | with_reducible assumption | exact om_9fa72578 ov18.2.1 p31), (by (try rw [c40]); (try rw [c10]); first | done | with_reducible assumption | exact om_9fa72578 ov18.2.2 p32), trivial⟩
def wik_X12_readTurner : List Nat := [900, 903, 968, 969, 970, 971, 972, 973, 974, 4095, 4159, 4223, 4287, 4351, 4415, 4799, 4863]
def wrk_X12_readTurner : List Nat := []
def wlk_X12_readTurner : List Nat := [975, 4735]
set_option maxHeartbeats 4000000 in
theorem fk_X12_readTurner {l : Launch} {T : Nat → Nat} {cn : Nat} {K N : Nat → Nat} {I0 : cz_I} {R0 : cz_R} {L0 : cz_L} (hW0 : Wf T cn K N I0 R0 0) (gB : cz_B) (gs : Int) (gQ : Nat → Int) {a0 : Nat} (ta0 : T a0 = 15) (hT : ∀ t, R0 a0 5 = some t → Tx I0 t gB) (hN : ∀ b, R0 a0 4 = some b → NmM I0 R0 L0 b gQ) (pre0 : (I0 a0 9).toInt = (tkM gB gs)) (pre1 : (I0 a0 9).toInt ≤ 4) (pre2 : (I0 a0 10).toInt = (tkS gB gs)) (pre3 : (I0 a0 11).toInt = (tkG gB gs)) (pre4 : (AtW ((tkK gB gs)) ((L0 a0 15).toInt) ((tkW gB gs)))) (pre5 : (AtV ((tkK gB gs)) ((I0 a0 12).toInt) ((tkV gB gs)))) (pre6 : (AtN ((tkK gB gs)) ((I0 a0 8).toInt) ((tkN gB gs)))) (pre7 : (I0 a0 7).toInt = (gB.2)) (pre8 : ∀ b1, R0 a0 4 = some b1 → (I0 b1 0).toInt = (gQ 0)) (pre9 : ∀ b1, R0 a0 4 = some b1 → (I0 b1 1).toInt = (gQ 1)) (pre10 : ∀ b1, R0 a0 4 = some b1 → (I0 b1 2).toInt = (gQ 2)) (pre11 : ∀ b1, R0 a0 4 = some b1 → (I0 b1 3).toInt = (gQ 3)) (pre12 : ∀ b1, R0 a0 4 = some b1 → (I0 b1 4).toInt = (gQ 4)) (pre13 : ∀ b1, R0 a0 4 = some b1 → (I0 b1 5).toInt = (gQ 5)) (pre14 : ∀ b1, R0 a0 4 = some b1 → (I0 b1 6).toInt = (gQ 6)) (pre15 : ∀ b1, R0 a0 4 = some b1 → (I0 b1 9).toInt = (gQ 8)) (pre16 : (Q7M ((gQ 0)) ((gQ 7)))) (pre17 : (tkK gB gs) = 1) (pre18 : (srt gB gs) = 7) (nn4 : ∃ b, R0 a0 4 = some b) : ConE l mX12_readTurner [.ref a0] cn K N I0 R0 L0 (ca_v (fun cn' K' N' I' R' L' => cn = cn' ∧ K = K' ∧ N = N' ∧ R0 = R' ∧ St T cn K N 0 wik_X12_readTurner wrk_X12_readTurner I0 R0 I' R0 ∧ (∀ dr, R0 a0 4 = some dr → FrO 14 dr T I0 I') ∧ ((((lnF gB gQ gs) = 0) ∧ (∀ b1, R0 a0 4 = some b1 → (I' b1 0).toInt = (lnQ gB gQ gs 0)) ∧ (∀ b1, R0 a0 4 = some b1 → (I' b1 1).toInt = (lnQ gB gQ gs 1)) ∧ (∀ b1, R0 a0 4 = some b1 → (I' b1 2).toInt = (lnQ gB gQ gs 2)) ∧ (∀ b1, R0 a0 4 = some b1 → (I' b1 3).toInt = (lnQ gB gQ gs 3)) ∧ (∀ b1, R0 a0 4 = some b1 → (I' b1 4).toInt = (lnQ gB gQ gs 4)) ∧ (∀ b1, R0 a0 4 = some b1 → (I' b1 5).toInt = (lnQ gB gQ gs 5)) ∧ (∀ b1, R0 a0 4 = some b1 → (I' b1 6).toInt = (lnQ gB gQ gs 6)) ∧ (∀ b1, R0 a0 4 = some b1 → (I' b1 9).toInt = (lnQ gB gQ gs 8)) ∧ ((I' a0 13).toInt = (I0 a0 13).toInt) ∧ ((I' a0 9).toInt = (tkM gB (lnS gB gQ gs))) ∧ ((I' a0 9).toInt ≤ 4) ∧ ((I' a0 10).toInt = (tkS gB (lnS gB gQ gs))) ∧ ((I' a0 11).toInt = (tkG gB (lnS gB gQ gs))) ∧ ((AtW ((tkK gB (lnS gB gQ gs))) ((L' a0 15).toInt) ((tkW gB (lnS gB gQ gs))))) ∧ ((AtV ((tkK gB (lnS gB gQ gs))) ((I' a0 12).toInt) ((tkV gB (lnS gB gQ gs))))) ∧ ((AtN ((tkK gB (lnS gB gQ gs))) ((I' a0 8).toInt) ((tkN gB (lnS gB gQ gs))))) ∧ LgS T wlk_X12_readTurner L0 L' ∧ (∀ b, R0 a0 4 = some b → NmM I' R0 L' b (lnQ gB gQ gs)) ∧ True) ∨ (((lnF gB gQ gs) ≠ 0) ∧ ((I' a0 9).toInt = 5) ∧ ((I' a0 13).toInt = (lnF gB gQ gs)) ∧ ((I' a0 14).toInt = (lnP gB gQ gs)) ∧ True)) ∧ True)) := by
  refine ConE.of (by decide +kernel) rfl (Nat.le_of_ble_eq_true rfl) rfl (fun X hX hZ hE => ?_)
  subst hX
  have hS0 : St T cn K N 0 wik_X12_readTurner wrk_X12_readTurner I0 R0 I0 R0 := St.rf0 hW0
  have hL0 : LgS T wlk_X12_readTurner L0 L0 := LgS.rf0
  obtain ⟨a1, d2⟩ := nn4
  have ta1 : T a1 = 14 := hW0.rsN ta0 rfl d2
  obtain ⟨v3, c4⟩ : ∃ v, I0 a0 9 = v := ⟨_, rfl⟩
  have b5 := iv15_9 hS0.1 ta0 c4
  have p6 := pre0
  rw [c4] at p6
  have p7 := pre1
  rw [c4] at p7
  obtain ⟨v8, c9⟩ : ∃ v, I0 a0 10 = v := ⟨_, rfl⟩
  have b10 := iv15_10 hS0.1 ta0 c9
  have p11 := pre2
  rw [c9] at p11
  obtain ⟨v12, c13⟩ : ∃ v, I0 a0 11 = v := ⟨_, rfl⟩
  have p14 := pre3
  rw [c13] at p14
  obtain ⟨y15, c16⟩ : ∃ v, L0 a0 15 = v := ⟨_, rfl⟩
  have p17 := pre4
  rw [c16] at p17
  obtain ⟨v18, c19⟩ : ∃ v, I0 a0 12 = v := ⟨_, rfl⟩
  have p20 := pre5
  rw [c19] at p20
  obtain ⟨v21, c22⟩ : ∃ v, I0 a0 8 = v := ⟨_, rfl⟩
  have b23 := iv15_8 hS0.1 ta0 c22
  have p24 := pre6
  rw [c22] at p24
  obtain ⟨v25, c26⟩ : ∃ v, I0 a0 7 = v := ⟨_, rfl⟩
  have b27 := iv15_7 hW0 ta0 c26
  have p28 := pre7
  rw [c26] at p28
  obtain ⟨v29, c30⟩ : ∃ v, I0 a1 0 = v := ⟨_, rfl⟩
  have b31 := iv14_0 hW0 ta1 c30
  have p32 := pre8 _ d2
  rw [c30] at p32
  obtain ⟨v33, c34⟩ : ∃ v, I0 a1 1 = v := ⟨_, rfl⟩
  have b35 := iv14_1 hW0 ta1 c34
  have p36 := pre9 _ d2
  rw [c34] at p36
  obtain ⟨v37, c38⟩ : ∃ v, I0 a1 2 = v := ⟨_, rfl⟩
  have b39 := iv14_2 hW0 ta1 c38
  have p40 := pre10 _ d2
  rw [c38] at p40
  obtain ⟨v41, c42⟩ : ∃ v, I0 a1 3 = v := ⟨_, rfl⟩
  have b43 := iv14_3 hW0 ta1 c42
  have p44 := pre11 _ d2
  rw [c42] at p44
  obtain ⟨v45, c46⟩ : ∃ v, I0 a1 4 = v := ⟨_, rfl⟩
  have b47 := iv14_4 hS0.1 ta1 c46
  have p48 := pre12 _ d2
  rw [c46] at p48
  obtain ⟨v49, c50⟩ : ∃ v, I0 a1 5 = v := ⟨_, rfl⟩
  have b51 := iv14_5 hW0 ta1 c50
  have p52 := pre13 _ d2
  rw [c50] at p52
  obtain ⟨v53, c54⟩ : ∃ v, I0 a1 6 = v := ⟨_, rfl⟩
  have b55 := iv14_6 hW0 ta1 c54
  have p56 := pre14 _ d2
  rw [c54] at p56
  obtain ⟨v57, c58⟩ : ∃ v, I0 a1 9 = v := ⟨_, rfl⟩
  have b59 := iv14_9 hW0 ta1 c58
  have p60 := pre15 _ d2
  rw [c58] at p60
  have p61 := pre16
  have p62 := pre17
  have p63 := pre18
  obtain ⟨v64, c65⟩ : ∃ v, I0 a0 13 = v := ⟨_, rfl⟩
  have hM0 := hN _ d2
  have hO0 : FrO 14 a1 T I0 I0 := FrO.rf
  have hF := lnF_ch gB gQ gs
  have hP := lnP_ch gB gQ gs
  replace hF := hF.neg (by exact om_b2533929 pre18)
  replace hP := hP.neg (by exact om_b2533929 pre18)
  replace hF := hF.neg (by exact om_b8b780f2 pre18)
  replace hP := hP.neg (by exact om_b8b780f2 pre18)
  refine tr_aload_n dX12_readTurner_0 rfl ?_
  refine tr_aload_n dX12_readTurner_1 rfl ?_
  refine tr_getR dX12_readTurner_2 fl12_188 (kR15 hS0.1 ta0) d2 ?_
  refine q_getI dX12_readTurner_5 fl12_315 (kR14 hS0.1 ta1) c46 ?_
  refine q_iconst dX12_readTurner_8 (by decide) ?_
  intro v66 h67
  refine q_callVv hE (M' := mX12_begins) (as := [_, _]) dX12_readTurner_9 lk12_268 inX12_begins seX12_begins myX12_begins (by decide) ⟨by decide, by decide⟩ rfl (kR15 hS0.1 ta0) (Nat.le_of_ble_eq_true rfl) rfl rfl (by decide) (by decide) (fk_X12_begins hS0.1 (gB) (gs) (gQ) ta0 (TxA.kp hT hS0 ta0 rfl rfl rfl (by decide +kernel) (by decide +kernel)) (by (try rw [c4]); first | done | with_reducible assumption | omega) (by (try rw [c4]); first | done | with_reducible assumption | omega) (by (try rw [c9]); first | done | with_reducible assumption | omega) (by (try rw [c13]); first | done | with_reducible assumption | omega) (by (try rw [c16]); first | done | assumption) (by (try rw [c19]); first | done | assumption) (by (try rw [c22]); first | done | assumption) (by (try rw [c26]); first | done | with_reducible assumption | omega) (fun q0 z0 => by obtain rfl := Option.some.inj ((d2).symm.trans z0); (try rw [c30]); first | done | with_reducible assumption | omega) (by first | done | with_reducible assumption | omega) ⟨_, d2⟩) ?_
  rintro cn' K' N' I68 R69 L70 ⟨rfl, rfl, rfl, rfl, g71, dj74, -⟩
  have hM75 : NmM I68 R0 L0 a1 gQ := NmM.kpS hM0 g71 hS0.1 ta1 (by decide +kernel) (by decide +kernel)
  have hS76 := hS0.tr g71 (by decide +kernel) (by decide +kernel)
  have c77 : I68 a1 4 = v45 := (g71.cell ta1 (by decide +kernel)).trans c46
  have hO78 : FrO 14 a1 T I0 I68 := hO0.st g71 (by decide +kernel)
  rcases dj74 with ⟨p79, p80, p81, p82, p83, p84, p85, p86, p87, p88, gl89, -⟩ | ⟨p90, p91, p92, p93, -⟩ | ⟨p94, p95, p96, p97, p98, -⟩
  · skip
    have hL99 := hL0.tr gl89 (by decide +kernel)
    have hM100 : NmM I68 R0 L70 a1 gQ := NmM.kpL hM75 gl89 hS76.1 ta1 (by decide +kernel)
    obtain ⟨v101, c102⟩ : ∃ v, I68 a0 13 = v := ⟨_, rfl⟩
    rw [c102] at p81
    rw [c65] at p81
    obtain ⟨v103, c104⟩ : ∃ v, I68 a0 9 = v := ⟨_, rfl⟩
    have b105 := iv15_9 hS76.1 ta0 c104
    rw [c104] at p82
    rw [c104] at p83
    obtain ⟨v106, c107⟩ : ∃ v, I68 a0 10 = v := ⟨_, rfl⟩
    have b108 := iv15_10 hS76.1 ta0 c107
    rw [c107] at p84
    obtain ⟨v109, c110⟩ : ∃ v, I68 a0 11 = v := ⟨_, rfl⟩
    rw [c110] at p85
    obtain ⟨y111, c112⟩ : ∃ v, L70 a0 15 = v := ⟨_, rfl⟩
    rw [c112] at p86
    obtain ⟨v113, c114⟩ : ∃ v, I68 a0 12 = v := ⟨_, rfl⟩
    rw [c114] at p87
    obtain ⟨v115, c116⟩ : ∃ v, I68 a0 8 = v := ⟨_, rfl⟩
    have b117 := iv15_8 hS76.1 ta0 c116
    rw [c116] at p88
    have p118 := p61
    unfold Q7M at p118
    replace hF := hF.neg (by exact om_f8a10a48 pre18 b31.2 b31.1 p32 b47.2 b47.1 p48 h67 p79 p80 p118)
    replace hP := hP.neg (by exact om_f8a10a48 pre18 b31.2 b31.1 p32 b47.2 b47.1 p48 h67 p79 p80 p118)
    replace hF := hF.neg (by exact om_c3d236a5 pre18 p80 p118)
    replace hP := hP.neg (by exact om_c3d236a5 pre18 p80 p118)
    clear p118
    obtain ⟨w119, w120, w121, w122, w123, w124, w125, w126, w127, w128, w129, w130⟩ := lnl_7 (B := gB) (Q := gQ) (s := gs) (by exact om_58805a6b p63)
    replace hF := hF.to w119 (tuF_cx gB gQ (tkN gB gs))
    replace hP := hP.to w120 (tuP_cx gB gQ (tkN gB gs))
    refine tr_aload_n dX12_readTurner_12 rfl ?_
    refine q_callVl hE (M' := mX12_readFresh) (as := []) dX12_readTurner_13 lk12_285 inX12_readFresh seX12_readFresh myX12_readFresh (by decide) ⟨by decide, by decide⟩ rfl (kR15 hS76.1 ta0) (Nat.le_of_ble_eq_true rfl) rfl rfl (by decide) (by decide) (fk_X12_readFresh hS76.1 (gB) ((tkN gB gs)) (gQ) ta0 (TxA.kp hT hS76 ta0 rfl rfl rfl (by decide +kernel) (by decide +kernel)) (fun b hb => (Option.some.inj (d2.symm.trans hb)) ▸ hM100) (by (try rw [c104]); first | done | with_reducible assumption | omega) (by (try rw [c104]); first | done | with_reducible assumption | omega) (by (try rw [c107]); first | done | with_reducible assumption | omega) (by (try rw [c110]); first | done | with_reducible assumption | omega) (by (try rw [c112]); first | done | assumption) (by (try rw [c114]); first | done | assumption) (by (try rw [c116]); first | done | assumption) (by (try rw [((hS76.cell ta0 (by decide +kernel)).trans c26)]); first | done | with_reducible assumption | omega) (fun q0 z0 => by obtain rfl := Option.some.inj ((d2).symm.trans z0); (try rw [((hS76.cell ta1 (by decide +kernel)).trans c42)]); first | done | with_reducible assumption | omega) (fun q0 z0 => by obtain rfl := Option.some.inj ((d2).symm.trans z0); (try rw [c77]); first | done | with_reducible assumption | omega) ⟨_, d2⟩) ?_
    rintro y136 cn' K' N' I131 R132 L133 ⟨rfl, rfl, rfl, rfl, g134, dj137, -⟩
    have hM138 : NmM I131 R0 L70 a1 gQ := NmM.kpS hM100 g134 hS76.1 ta1 (by decide +kernel) (by decide +kernel)
    have hS139 := hS76.tr g134 (by decide +kernel) (by decide +kernel)
    have c140 : I131 a1 4 = v45 := (g134.cell ta1 (by decide +kernel)).trans c77
    have hO141 : FrO 14 a1 T I0 I131 := hO78.st g134 (by decide +kernel)
    rcases dj137 with ⟨p142, p143, p144, p145, p146, p147, p148, p149, p150, p151, p152, p153, p154, gl155, -⟩ | ⟨p156, p157, p158, p159, -⟩ | ⟨p160, p161, p162, p163, p164, -⟩
    · skip
      have hL165 := hL99.tr gl155 (by decide +kernel)
      have hM166 : NmM I131 R0 L133 a1 gQ := NmM.kpL hM138 gl155 hS139.1 ta1 (by decide +kernel)
      obtain ⟨v167, c168⟩ : ∃ v, I131 a0 13 = v := ⟨_, rfl⟩
      rw [c168] at p147
      rw [c102] at p147
      obtain ⟨v169, c170⟩ : ∃ v, I131 a0 9 = v := ⟨_, rfl⟩
      have b171 := iv15_9 hS139.1 ta0 c170
      rw [c170] at p148
      rw [c170] at p149
      obtain ⟨v172, c173⟩ : ∃ v, I131 a0 10 = v := ⟨_, rfl⟩
      have b174 := iv15_10 hS139.1 ta0 c173
      rw [c173] at p150
      obtain ⟨v175, c176⟩ : ∃ v, I131 a0 11 = v := ⟨_, rfl⟩
      rw [c176] at p151
      obtain ⟨y177, c178⟩ : ∃ v, L133 a0 15 = v := ⟨_, rfl⟩
      rw [c178] at p152
      obtain ⟨v179, c180⟩ : ∃ v, I131 a0 12 = v := ⟨_, rfl⟩
      rw [c180] at p153
      obtain ⟨v181, c182⟩ : ∃ v, I131 a0 8 = v := ⟨_, rfl⟩
      have b183 := iv15_8 hS139.1 ta0 c182
      rw [c182] at p154
      replace hF := hF.neg (by exact om_e4d065d5 p143)
      replace hP := hP.neg (by exact om_e4d065d5 p143)
      replace hF := hF.neg (by exact om_e6f60cd2 p145 p146)
      replace hP := hP.neg (by exact om_e6f60cd2 p145 p146)
      refine tr_lstore_n dX12_readTurner_16 (by decide) (by decide) (by decide) ?_
      refine tr_aload_n dX12_readTurner_17 rfl ?_
      refine tr_ldcwS dX12_readTurner_18 ld12_318 ?_
      refine q_callVi hE (M' := mX12_eatsWord) (as := [_]) dX12_readTurner_21 lk12_290 inX12_eatsWord seX12_eatsWord myX12_eatsWord (by decide) ⟨by decide, by decide⟩ rfl (kR15 hS139.1 ta0) (Nat.le_of_ble_eq_true rfl) rfl rfl (by decide) (by decide) (fk_X12_eatsWord hS139.1 (gB) ((tkN gB (tkN gB gs))) ta0 (by decide) (TxA.kp hT hS139 ta0 rfl rfl rfl (by decide +kernel) (by decide +kernel)) (by (try rw [c170]); first | done | with_reducible assumption | omega) (by (try rw [c170]); first | done | with_reducible assumption | omega) (by (try rw [c173]); first | done | with_reducible assumption | omega) (by (try rw [c176]); first | done | with_reducible assumption | omega) (by (try rw [c178]); first | done | assumption) (by (try rw [c180]); first | done | assumption) (by (try rw [c182]); first | done | assumption) (by (try rw [((hS139.cell ta0 (by decide +kernel)).trans c26)]); first | done | with_reducible assumption | omega)) ?_
      rintro v189 cn' K' N' I184 R185 L186 ⟨rfl, rfl, rfl, rfl, g187, gl188, h190, dj191, -⟩
      (try rw [pk_21] at dj191)
      have hM192 : NmM I184 R0 L133 a1 gQ := NmM.kpS hM166 g187 hS139.1 ta1 (by decide +kernel) (by decide +kernel)
      have hS193 := hS139.tr g187 (by decide +kernel) (by decide +kernel)
      have c194 : I184 a1 4 = v45 := (g187.cell ta1 (by decide +kernel)).trans c140
      have c195 : I184 a0 13 = v167 := (g187.cell ta0 (by decide +kernel)).trans c168
      have hO196 : FrO 14 a1 T I0 I184 := hO141.st g187 (by decide +kernel)
      have hL197 := hL165.tr gl188 (by decide +kernel)
      have hM198 : NmM I184 R0 L186 a1 gQ := NmM.kpL hM192 gl188 hS193.1 ta1 (by decide +kernel)
      rcases dj191 with ⟨p199, p200, p201, p202, p203, p204, p205, p206, p207, p208, p209, -⟩ | ⟨p210, p211, p212, p213, p214, p215, p216, p217, p218, p219, -⟩
      · skip
        rw [c195] at p202
        rw [c168] at p202
        obtain ⟨v220, c221⟩ : ∃ v, I184 a0 9 = v := ⟨_, rfl⟩
        have b222 := iv15_9 hS193.1 ta0 c221
        rw [c221] at p203
        rw [c221] at p204
        obtain ⟨v223, c224⟩ : ∃ v, I184 a0 10 = v := ⟨_, rfl⟩
        have b225 := iv15_10 hS193.1 ta0 c224
        rw [c224] at p205
        obtain ⟨v226, c227⟩ : ∃ v, I184 a0 11 = v := ⟨_, rfl⟩
        rw [c227] at p206
        obtain ⟨y228, c229⟩ : ∃ v, L186 a0 15 = v := ⟨_, rfl⟩
        rw [c229] at p207
        obtain ⟨v230, c231⟩ : ∃ v, I184 a0 12 = v := ⟨_, rfl⟩
        rw [c231] at p208
        obtain ⟨v232, c233⟩ : ∃ v, I184 a0 8 = v := ⟨_, rfl⟩
        have b234 := iv15_8 hS193.1 ta0 c233
        rw [c233] at p209
        refine q_if_eq 31 dX12_readTurner_24 (by decide) (fun h235 => ?_) (fun h235 => ?_)
        · skip
          exfalso; exact om_3624102b p199 h235
        · skip
          refine q_iconst dX12_readTurner_27 (by decide) ?_
          intro v236 h237
          refine tr_goto 73 dX12_readTurner_28 (by decide) ?_
          refine tr_istore_n dX12_readTurner_73 (by decide) (by decide) ?_
          have kd238 : tkd gB (tkN gB (tkN gB gs)) = 0 := by simp [tkd, (show tkK gB (tkN gB (tkN gB gs)) = 1 by exact om_ee8a1e2d p200), (show tkW gB (tkN gB (tkN gB gs)) = 627891 by exact om_be5fb79b p201)]
          have kd238x : tkd gB (tkN gB (tkN gB gs)) = v236.toInt := by exact om_92159e6f h237 kd238
          refine tr_iload_n dX12_readTurner_74 rfl ?_
          refine q_iconst dX12_readTurner_75 (by decide) ?_
          intro v239 h240
          refine q_icmp_ne 84 dX12_readTurner_76 (by decide) (fun h241 => ?_) (fun h241 => ?_)
          · skip
            refine sf_tuL hE hZ hS193.1 (gB) (gs) (gQ) ta0 (by exact om_a28085d4 h237) (TxA.kp hT hS193 ta0 rfl rfl rfl (by decide +kernel) (by decide +kernel)) (fun b hb => (Option.some.inj (d2.symm.trans hb)) ▸ hM198) (by (try rw [c221]); first | done | with_reducible assumption | omega) (by (try rw [c221]); first | done | with_reducible assumption | omega) (by (try rw [c224]); first | done | with_reducible assumption | omega) (by (try rw [c227]); first | done | with_reducible assumption | omega) (by (try rw [c229]); first | done | assumption) (by (try rw [c231]); first | done | assumption) (by (try rw [c233]); first | done | assumption) (by (try rw [((hS193.cell ta0 (by decide +kernel)).trans c26)]); first | done | with_reducible assumption | omega) (fun q0 z0 => by obtain rfl := Option.some.inj ((d2).symm.trans z0); (try rw [((hS193.cell ta1 (by decide +kernel)).trans c30)]); first | done | with_reducible assumption | omega) (fun q0 z0 => by obtain rfl := Option.some.inj ((d2).symm.trans z0); (try rw [((hS193.cell ta1 (by decide +kernel)).trans c34)]); first | done | with_reducible assumption | omega) (fun q0 z0 => by obtain rfl := Option.some.inj ((d2).symm.trans z0); (try rw [((hS193.cell ta1 (by decide +kernel)).trans c38)]); first | done | with_reducible assumption | omega) (fun q0 z0 => by obtain rfl := Option.some.inj ((d2).symm.trans z0); (try rw [((hS193.cell ta1 (by decide +kernel)).trans c42)]); first | done | with_reducible assumption | omega) (fun q0 z0 => by obtain rfl := Option.some.inj ((d2).symm.trans z0); (try rw [c194]); first | done | with_reducible assumption | omega) (fun q0 z0 => by obtain rfl := Option.some.inj ((d2).symm.trans z0); (try rw [((hS193.cell ta1 (by decide +kernel)).trans c50)]); first | done | with_reducible assumption | omega) (fun q0 z0 => by obtain rfl := Option.some.inj ((d2).symm.trans z0); (try rw [((hS193.cell ta1 (by decide +kernel)).trans c54)]); first | done | with_reducible assumption | omega) (fun q0 z0 => by obtain rfl := Option.some.inj ((d2).symm.trans z0); (try rw [((hS193.cell ta1 (by decide +kernel)).trans c58)]); first | done | with_reducible assumption | omega) (by first | done | assumption) (by first | done | with_reducible assumption | omega) (by first | done | with_reducible assumption | omega) (by first | done | with_reducible assumption | exact om_d788ff66 b31.2 b31.1 p32 b47.2 b47.1 p48 h67 p79 p80 w122 w126 p199 h235 h237 h240 h241) (by first | done | with_reducible assumption | omega) (by first | done | with_reducible assumption | omega) (by first | done | with_reducible assumption | omega) (by first | done | with_reducible assumption | omega) (by first | done | with_reducible assumption | omega) (by first | done | with_reducible assumption | omega) ⟨_, d2⟩ rfl rfl rfl ?_
            rintro I242 R243 L244 ⟨g245, rp246, dj247, -⟩
            obtain rfl : R0 = R243 := funext fun a => funext fun j => (g245.2.2 a j (wm_no rfl)).symm
            have hS248 := hS193.tr g245 (by decide +kernel) (by decide +kernel)
            have hO249 : FrO 14 a1 T I0 I242 := hO196.tr (rp246 _ d2)
            rcases dj247 with ⟨p250, p251, p252, p253, p254, p255, p256, p257, p258, p259, p260, p261, p262, p263, p264, p265, p266, gl267, rp268, -⟩ | ⟨p269, p270, p271, p272, -⟩
            · skip
              have hL273 := hL197.tr gl267 (by decide +kernel)
              have p274 := p251 _ d2
              clear p251
              rw [((hS248.cell ta1 (by decide +kernel)).trans c30)] at p274
              have p275 := p252 _ d2
              clear p252
              rw [((hS248.cell ta1 (by decide +kernel)).trans c34)] at p275
              have p276 := p253 _ d2
              clear p253
              rw [((hS248.cell ta1 (by decide +kernel)).trans c38)] at p276
              have p277 := p254 _ d2
              clear p254
              rw [((hS248.cell ta1 (by decide +kernel)).trans c42)] at p277
              obtain ⟨v278, c279⟩ : ∃ v, I242 a1 4 = v := ⟨_, rfl⟩
              have b280 := iv14_4 hS248.1 ta1 c279
              have p281 := p255 _ d2
              clear p255
              rw [c279] at p281
              have p282 := p256 _ d2
              clear p256
              rw [((hS248.cell ta1 (by decide +kernel)).trans c50)] at p282
              have p283 := p257 _ d2
              clear p257
              rw [((hS248.cell ta1 (by decide +kernel)).trans c54)] at p283
              have p284 := p258 _ d2
              clear p258
              rw [((hS248.cell ta1 (by decide +kernel)).trans c58)] at p284
              obtain ⟨v285, c286⟩ : ∃ v, I242 a0 13 = v := ⟨_, rfl⟩
              rw [c286] at p259
              rw [c195] at p259
              obtain ⟨v287, c288⟩ : ∃ v, I242 a0 9 = v := ⟨_, rfl⟩
              have b289 := iv15_9 hS248.1 ta0 c288
              rw [c288] at p260
              rw [c288] at p261
              obtain ⟨v290, c291⟩ : ∃ v, I242 a0 10 = v := ⟨_, rfl⟩
              have b292 := iv15_10 hS248.1 ta0 c291
              rw [c291] at p262
              obtain ⟨v293, c294⟩ : ∃ v, I242 a0 11 = v := ⟨_, rfl⟩
              rw [c294] at p263
              obtain ⟨y295, c296⟩ : ∃ v, L244 a0 15 = v := ⟨_, rfl⟩
              rw [c296] at p264
              obtain ⟨v297, c298⟩ : ∃ v, I242 a0 12 = v := ⟨_, rfl⟩
              rw [c298] at p265
              obtain ⟨v299, c300⟩ : ∃ v, I242 a0 8 = v := ⟨_, rfl⟩
              have b301 := iv15_8 hS248.1 ta0 c300
              rw [c300] at p266
              obtain ⟨v302, c303⟩ : ∃ v, I242 a0 14 = v := ⟨_, rfl⟩
              exact ⟨rfl, rfl, rfl, rfl, rfl, hS248, (fun dr hd => (Option.some.inj (d2.symm.trans hd)) ▸ hO249), (Or.inl ⟨(by first | done | with_reducible assumption | omega), (fun q0 z0 => by obtain rfl := Option.some.inj ((d2).symm.trans z0); (try rw [((hS248.cell ta1 (by decide +kernel)).trans c30)]); first | done | with_reducible assumption | omega), (fun q0 z0 => by obtain rfl := Option.some.inj ((d2).symm.trans z0); (try rw [((hS248.cell ta1 (by decide +kernel)).trans c34)]); first | done | with_reducible assumption | omega), (fun q0 z0 => by obtain rfl := Option.some.inj ((d2).symm.trans z0); (try rw [((hS248.cell ta1 (by decide +kernel)).trans c38)]); first | done | with_reducible assumption | omega), (fun q0 z0 => by obtain rfl := Option.some.inj ((d2).symm.trans z0); (try rw [((hS248.cell ta1 (by decide +kernel)).trans c42)]); first | done | with_reducible assumption | omega), (fun q0 z0 => by obtain rfl := Option.some.inj ((d2).symm.trans z0); (try rw [c279]); first | done | with_reducible assumption | omega), (fun q0 z0 => by obtain rfl := Option.some.inj ((d2).symm.trans z0); (try rw [((hS248.cell ta1 (by decide +kernel)).trans c50)]); first | done | with_reducible assumption | omega), (fun q0 z0 => by obtain rfl := Option.some.inj ((d2).symm.trans z0); (try rw [((hS248.cell ta1 (by decide +kernel)).trans c54)]); first | done | with_reducible assumption | omega), (fun q0 z0 => by obtain rfl := Option.some.inj ((d2).symm.trans z0); (try rw [((hS248.cell ta1 (by decide +kernel)).trans c58)]); first | done | with_reducible assumption | omega), (by (try rw [c286]); (try rw [c65]); first | done | with_reducible assumption | exact om_1c22ab7e p81 p147 p259), (by (try rw [c288]); first | done | with_reducible assumption | omega), (by (try rw [c288]); first | done | with_reducible assumption | omega), (by (try rw [c291]); first | done | with_reducible assumption | omega), (by (try rw [c294]); first | done | with_reducible assumption | omega), (by (try rw [c296]); first | done | assumption), (by (try rw [c298]); first | done | assumption), (by (try rw [c300]); first | done | assumption), hL273, rp268, trivial⟩), trivial⟩
            · skip
              obtain ⟨v304, c305⟩ : ∃ v, I242 a0 9 = v := ⟨_, rfl⟩
              have b306 := iv15_9 hS248.1 ta0 c305
              rw [c305] at p270
              obtain ⟨v307, c308⟩ : ∃ v, I242 a0 13 = v := ⟨_, rfl⟩
              rw [c308] at p271
              obtain ⟨v309, c310⟩ : ∃ v, I242 a0 14 = v := ⟨_, rfl⟩
              rw [c310] at p272
              obtain ⟨v311, c312⟩ : ∃ v, I242 a1 4 = v := ⟨_, rfl⟩
              have b313 := iv14_4 hS248.1 ta1 c312
              obtain ⟨v314, c315⟩ : ∃ v, I242 a0 10 = v := ⟨_, rfl⟩
              have b316 := iv15_10 hS248.1 ta0 c315
              obtain ⟨v317, c318⟩ : ∃ v, I242 a0 11 = v := ⟨_, rfl⟩
              obtain ⟨y319, c320⟩ : ∃ v, L244 a0 15 = v := ⟨_, rfl⟩
              obtain ⟨v321, c322⟩ : ∃ v, I242 a0 12 = v := ⟨_, rfl⟩
              obtain ⟨v323, c324⟩ : ∃ v, I242 a0 8 = v := ⟨_, rfl⟩
              have b325 := iv15_8 hS248.1 ta0 c324
              exact ⟨rfl, rfl, rfl, rfl, rfl, hS248, (fun dr hd => (Option.some.inj (d2.symm.trans hd)) ▸ hO249), (Or.inr (⟨(by first | done | with_reducible assumption | omega), (by (try rw [c305]); first | done | with_reducible assumption | omega), (by (try rw [c308]); first | done | with_reducible assumption | omega), (by (try rw [c310]); first | done | with_reducible assumption | omega), trivial⟩)), trivial⟩
          · skip
            exfalso; exact om_8a096741 h237 h240 h241
      · skip
        rw [c195] at p212
        rw [c168] at p212
        obtain ⟨v326, c327⟩ : ∃ v, I184 a0 9 = v := ⟨_, rfl⟩
        have b328 := iv15_9 hS193.1 ta0 c327
        rw [c327] at p213
        rw [c327] at p214
        obtain ⟨v329, c330⟩ : ∃ v, I184 a0 10 = v := ⟨_, rfl⟩
        have b331 := iv15_10 hS193.1 ta0 c330
        rw [c330] at p215
        obtain ⟨v332, c333⟩ : ∃ v, I184 a0 11 = v := ⟨_, rfl⟩
        rw [c333] at p216
        obtain ⟨y334, c335⟩ : ∃ v, L186 a0 15 = v := ⟨_, rfl⟩
        rw [c335] at p217
        obtain ⟨v336, c337⟩ : ∃ v, I184 a0 12 = v := ⟨_, rfl⟩
        rw [c337] at p218
        obtain ⟨v338, c339⟩ : ∃ v, I184 a0 8 = v := ⟨_, rfl⟩
        have b340 := iv15_8 hS193.1 ta0 c339
        rw [c339] at p219
        refine q_if_eq 31 dX12_readTurner_24 (by decide) (fun h341 => ?_) (fun h341 => ?_)
        · skip
          refine tr_aload_n dX12_readTurner_31 rfl ?_
          refine tr_ldcwS dX12_readTurner_32 ld12_320 ?_
          refine q_callVi hE (M' := mX12_eatsWord) (as := [_]) dX12_readTurner_35 lk12_290 inX12_eatsWord seX12_eatsWord myX12_eatsWord (by decide) ⟨by decide, by decide⟩ rfl (kR15 hS193.1 ta0) (Nat.le_of_ble_eq_true rfl) rfl rfl (by decide) (by decide) (fk_X12_eatsWord hS193.1 (gB) ((tkN gB (tkN gB gs))) ta0 (by decide) (TxA.kp hT hS193 ta0 rfl rfl rfl (by decide +kernel) (by decide +kernel)) (by (try rw [c327]); first | done | with_reducible assumption | omega) (by (try rw [c327]); first | done | with_reducible assumption | omega) (by (try rw [c330]); first | done | with_reducible assumption | omega) (by (try rw [c333]); first | done | with_reducible assumption | omega) (by (try rw [c335]); first | done | assumption) (by (try rw [c337]); first | done | assumption) (by (try rw [c339]); first | done | assumption) (by (try rw [((hS193.cell ta0 (by decide +kernel)).trans c26)]); first | done | with_reducible assumption | omega)) ?_
          rintro v347 cn' K' N' I342 R343 L344 ⟨rfl, rfl, rfl, rfl, g345, gl346, h348, dj349, -⟩
          (try rw [pk_3] at dj349)
          have hM350 : NmM I342 R0 L186 a1 gQ := NmM.kpS hM198 g345 hS193.1 ta1 (by decide +kernel) (by decide +kernel)
          have hS351 := hS193.tr g345 (by decide +kernel) (by decide +kernel)
          have c352 : I342 a1 4 = v45 := (g345.cell ta1 (by decide +kernel)).trans c194
          have c353 : I342 a0 13 = v167 := (g345.cell ta0 (by decide +kernel)).trans c195
          have hO354 : FrO 14 a1 T I0 I342 := hO196.st g345 (by decide +kernel)
          have hL355 := hL197.tr gl346 (by decide +kernel)
          have hM356 : NmM I342 R0 L344 a1 gQ := NmM.kpL hM350 gl346 hS351.1 ta1 (by decide +kernel)
          rcases dj349 with ⟨p357, p358, p359, p360, p361, p362, p363, p364, p365, p366, p367, -⟩ | ⟨p368, p369, p370, p371, p372, p373, p374, p375, p376, p377, -⟩
          · skip
            rw [c353] at p360
            rw [c195] at p360
            obtain ⟨v378, c379⟩ : ∃ v, I342 a0 9 = v := ⟨_, rfl⟩
            have b380 := iv15_9 hS351.1 ta0 c379
            rw [c379] at p361
            rw [c379] at p362
            obtain ⟨v381, c382⟩ : ∃ v, I342 a0 10 = v := ⟨_, rfl⟩
            have b383 := iv15_10 hS351.1 ta0 c382
            rw [c382] at p363
            obtain ⟨v384, c385⟩ : ∃ v, I342 a0 11 = v := ⟨_, rfl⟩
            rw [c385] at p364
            obtain ⟨y386, c387⟩ : ∃ v, L344 a0 15 = v := ⟨_, rfl⟩
            rw [c387] at p365
            obtain ⟨v388, c389⟩ : ∃ v, I342 a0 12 = v := ⟨_, rfl⟩
            rw [c389] at p366
            obtain ⟨v390, c391⟩ : ∃ v, I342 a0 8 = v := ⟨_, rfl⟩
            have b392 := iv15_8 hS351.1 ta0 c391
            rw [c391] at p367
            refine q_if_eq 45 dX12_readTurner_38 (by decide) (fun h393 => ?_) (fun h393 => ?_)
            · skip
              exfalso; exact om_3624102b p357 h393
            · skip
              refine q_iconst dX12_readTurner_41 (by decide) ?_
              intro v394 h395
              refine tr_goto 73 dX12_readTurner_42 (by decide) ?_
              refine tr_istore_n dX12_readTurner_73 (by decide) (by decide) ?_
              have kd396 : tkd gB (tkN gB (tkN gB gs)) = 1 := by simp [tkd, (show tkK gB (tkN gB (tkN gB gs)) = 1 by exact om_ee8a1e2d p358), (show tkW gB (tkN gB (tkN gB gs)) = 2500036 by exact om_e589aa96 p359)]
              have kd396x : tkd gB (tkN gB (tkN gB gs)) = v394.toInt := by exact om_f2e5fab5 h395 kd396
              refine tr_iload_n dX12_readTurner_74 rfl ?_
              refine q_iconst dX12_readTurner_75 (by decide) ?_
              intro v397 h398
              refine q_icmp_ne 84 dX12_readTurner_76 (by decide) (fun h399 => ?_) (fun h399 => ?_)
              · skip
                refine sf_tuL hE hZ hS351.1 (gB) (gs) (gQ) ta0 (by exact om_11c85c76 h395) (TxA.kp hT hS351 ta0 rfl rfl rfl (by decide +kernel) (by decide +kernel)) (fun b hb => (Option.some.inj (d2.symm.trans hb)) ▸ hM356) (by (try rw [c379]); first | done | with_reducible assumption | omega) (by (try rw [c379]); first | done | with_reducible assumption | omega) (by (try rw [c382]); first | done | with_reducible assumption | omega) (by (try rw [c385]); first | done | with_reducible assumption | omega) (by (try rw [c387]); first | done | assumption) (by (try rw [c389]); first | done | assumption) (by (try rw [c391]); first | done | assumption) (by (try rw [((hS351.cell ta0 (by decide +kernel)).trans c26)]); first | done | with_reducible assumption | omega) (fun q0 z0 => by obtain rfl := Option.some.inj ((d2).symm.trans z0); (try rw [((hS351.cell ta1 (by decide +kernel)).trans c30)]); first | done | with_reducible assumption | omega) (fun q0 z0 => by obtain rfl := Option.some.inj ((d2).symm.trans z0); (try rw [((hS351.cell ta1 (by decide +kernel)).trans c34)]); first | done | with_reducible assumption | omega) (fun q0 z0 => by obtain rfl := Option.some.inj ((d2).symm.trans z0); (try rw [((hS351.cell ta1 (by decide +kernel)).trans c38)]); first | done | with_reducible assumption | omega) (fun q0 z0 => by obtain rfl := Option.some.inj ((d2).symm.trans z0); (try rw [((hS351.cell ta1 (by decide +kernel)).trans c42)]); first | done | with_reducible assumption | omega) (fun q0 z0 => by obtain rfl := Option.some.inj ((d2).symm.trans z0); (try rw [c352]); first | done | with_reducible assumption | omega) (fun q0 z0 => by obtain rfl := Option.some.inj ((d2).symm.trans z0); (try rw [((hS351.cell ta1 (by decide +kernel)).trans c50)]); first | done | with_reducible assumption | omega) (fun q0 z0 => by obtain rfl := Option.some.inj ((d2).symm.trans z0); (try rw [((hS351.cell ta1 (by decide +kernel)).trans c54)]); first | done | with_reducible assumption | omega) (fun q0 z0 => by obtain rfl := Option.some.inj ((d2).symm.trans z0); (try rw [((hS351.cell ta1 (by decide +kernel)).trans c58)]); first | done | with_reducible assumption | omega) (by first | done | assumption) (by first | done | with_reducible assumption | omega) (by first | done | with_reducible assumption | omega) (by first | done | with_reducible assumption | exact om_a58b0f39 b31.2 b31.1 p32 b47.2 b47.1 p48 h67 p79 p80 w122 w126 p357 h393 h395 h398 h399) (by first | done | with_reducible assumption | omega) (by first | done | with_reducible assumption | omega) (by first | done | with_reducible assumption | omega) (by first | done | with_reducible assumption | omega) (by first | done | with_reducible assumption | omega) (by first | done | with_reducible assumption | omega) ⟨_, d2⟩ rfl rfl rfl ?_
                rintro I400 R401 L402 ⟨g403, rp404, dj405, -⟩
                obtain rfl : R0 = R401 := funext fun a => funext fun j => (g403.2.2 a j (wm_no rfl)).symm
                have hS406 := hS351.tr g403 (by decide +kernel) (by decide +kernel)
                have hO407 : FrO 14 a1 T I0 I400 := hO354.tr (rp404 _ d2)
                rcases dj405 with ⟨p408, p409, p410, p411, p412, p413, p414, p415, p416, p417, p418, p419, p420, p421, p422, p423, p424, gl425, rp426, -⟩ | ⟨p427, p428, p429, p430, -⟩
                · skip
                  have hL431 := hL355.tr gl425 (by decide +kernel)
                  have p432 := p409 _ d2
                  clear p409
                  rw [((hS406.cell ta1 (by decide +kernel)).trans c30)] at p432
                  have p433 := p410 _ d2
                  clear p410
                  rw [((hS406.cell ta1 (by decide +kernel)).trans c34)] at p433
                  have p434 := p411 _ d2
                  clear p411
                  rw [((hS406.cell ta1 (by decide +kernel)).trans c38)] at p434
                  have p435 := p412 _ d2
                  clear p412
                  rw [((hS406.cell ta1 (by decide +kernel)).trans c42)] at p435
                  obtain ⟨v436, c437⟩ : ∃ v, I400 a1 4 = v := ⟨_, rfl⟩
                  have b438 := iv14_4 hS406.1 ta1 c437
                  have p439 := p413 _ d2
                  clear p413
                  rw [c437] at p439
                  have p440 := p414 _ d2
                  clear p414
                  rw [((hS406.cell ta1 (by decide +kernel)).trans c50)] at p440
                  have p441 := p415 _ d2
                  clear p415
                  rw [((hS406.cell ta1 (by decide +kernel)).trans c54)] at p441
                  have p442 := p416 _ d2
                  clear p416
                  rw [((hS406.cell ta1 (by decide +kernel)).trans c58)] at p442
                  obtain ⟨v443, c444⟩ : ∃ v, I400 a0 13 = v := ⟨_, rfl⟩
                  rw [c444] at p417
                  rw [c353] at p417
                  obtain ⟨v445, c446⟩ : ∃ v, I400 a0 9 = v := ⟨_, rfl⟩
                  have b447 := iv15_9 hS406.1 ta0 c446
                  rw [c446] at p418
                  rw [c446] at p419
                  obtain ⟨v448, c449⟩ : ∃ v, I400 a0 10 = v := ⟨_, rfl⟩
                  have b450 := iv15_10 hS406.1 ta0 c449
                  rw [c449] at p420
                  obtain ⟨v451, c452⟩ : ∃ v, I400 a0 11 = v := ⟨_, rfl⟩
                  rw [c452] at p421
                  obtain ⟨y453, c454⟩ : ∃ v, L402 a0 15 = v := ⟨_, rfl⟩
                  rw [c454] at p422
                  obtain ⟨v455, c456⟩ : ∃ v, I400 a0 12 = v := ⟨_, rfl⟩
                  rw [c456] at p423
                  obtain ⟨v457, c458⟩ : ∃ v, I400 a0 8 = v := ⟨_, rfl⟩
                  have b459 := iv15_8 hS406.1 ta0 c458
                  rw [c458] at p424
                  obtain ⟨v460, c461⟩ : ∃ v, I400 a0 14 = v := ⟨_, rfl⟩
                  exact ⟨rfl, rfl, rfl, rfl, rfl, hS406, (fun dr hd => (Option.some.inj (d2.symm.trans hd)) ▸ hO407), (Or.inl ⟨(by first | done | with_reducible assumption | omega), (fun q0 z0 => by obtain rfl := Option.some.inj ((d2).symm.trans z0); (try rw [((hS406.cell ta1 (by decide +kernel)).trans c30)]); first | done | with_reducible assumption | omega), (fun q0 z0 => by obtain rfl := Option.some.inj ((d2).symm.trans z0); (try rw [((hS406.cell ta1 (by decide +kernel)).trans c34)]); first | done | with_reducible assumption | omega), (fun q0 z0 => by obtain rfl := Option.some.inj ((d2).symm.trans z0); (try rw [((hS406.cell ta1 (by decide +kernel)).trans c38)]); first | done | with_reducible assumption | omega), (fun q0 z0 => by obtain rfl := Option.some.inj ((d2).symm.trans z0); (try rw [((hS406.cell ta1 (by decide +kernel)).trans c42)]); first | done | with_reducible assumption | omega), (fun q0 z0 => by obtain rfl := Option.some.inj ((d2).symm.trans z0); (try rw [c437]); first | done | with_reducible assumption | omega), (fun q0 z0 => by obtain rfl := Option.some.inj ((d2).symm.trans z0); (try rw [((hS406.cell ta1 (by decide +kernel)).trans c50)]); first | done | with_reducible assumption | omega), (fun q0 z0 => by obtain rfl := Option.some.inj ((d2).symm.trans z0); (try rw [((hS406.cell ta1 (by decide +kernel)).trans c54)]); first | done | with_reducible assumption | omega), (fun q0 z0 => by obtain rfl := Option.some.inj ((d2).symm.trans z0); (try rw [((hS406.cell ta1 (by decide +kernel)).trans c58)]); first | done | with_reducible assumption | omega), (by (try rw [c444]); (try rw [c65]); first | done | with_reducible assumption | exact om_1c22ab7e p81 p147 p417), (by (try rw [c446]); first | done | with_reducible assumption | omega), (by (try rw [c446]); first | done | with_reducible assumption | omega), (by (try rw [c449]); first | done | with_reducible assumption | omega), (by (try rw [c452]); first | done | with_reducible assumption | omega), (by (try rw [c454]); first | done | assumption), (by (try rw [c456]); first | done | assumption), (by (try rw [c458]); first | done | assumption), hL431, rp426, trivial⟩), trivial⟩
                · skip
                  obtain ⟨v462, c463⟩ : ∃ v, I400 a0 9 = v := ⟨_, rfl⟩
                  have b464 := iv15_9 hS406.1 ta0 c463
                  rw [c463] at p428
                  obtain ⟨v465, c466⟩ : ∃ v, I400 a0 13 = v := ⟨_, rfl⟩
                  rw [c466] at p429
                  obtain ⟨v467, c468⟩ : ∃ v, I400 a0 14 = v := ⟨_, rfl⟩
                  rw [c468] at p430
                  obtain ⟨v469, c470⟩ : ∃ v, I400 a1 4 = v := ⟨_, rfl⟩
                  have b471 := iv14_4 hS406.1 ta1 c470
                  obtain ⟨v472, c473⟩ : ∃ v, I400 a0 10 = v := ⟨_, rfl⟩
                  have b474 := iv15_10 hS406.1 ta0 c473
                  obtain ⟨v475, c476⟩ : ∃ v, I400 a0 11 = v := ⟨_, rfl⟩
                  obtain ⟨y477, c478⟩ : ∃ v, L402 a0 15 = v := ⟨_, rfl⟩
                  obtain ⟨v479, c480⟩ : ∃ v, I400 a0 12 = v := ⟨_, rfl⟩
                  obtain ⟨v481, c482⟩ : ∃ v, I400 a0 8 = v := ⟨_, rfl⟩
                  have b483 := iv15_8 hS406.1 ta0 c482
                  exact ⟨rfl, rfl, rfl, rfl, rfl, hS406, (fun dr hd => (Option.some.inj (d2.symm.trans hd)) ▸ hO407), (Or.inr (⟨(by first | done | with_reducible assumption | omega), (by (try rw [c463]); first | done | with_reducible assumption | omega), (by (try rw [c466]); first | done | with_reducible assumption | omega), (by (try rw [c468]); first | done | with_reducible assumption | omega), trivial⟩)), trivial⟩
              · skip
                exfalso; exact om_21e85782 h395 h398 h399
          · skip
            rw [c353] at p370
            rw [c195] at p370
            obtain ⟨v484, c485⟩ : ∃ v, I342 a0 9 = v := ⟨_, rfl⟩
            have b486 := iv15_9 hS351.1 ta0 c485
            rw [c485] at p371
            rw [c485] at p372
            obtain ⟨v487, c488⟩ : ∃ v, I342 a0 10 = v := ⟨_, rfl⟩
            have b489 := iv15_10 hS351.1 ta0 c488
            rw [c488] at p373
            obtain ⟨v490, c491⟩ : ∃ v, I342 a0 11 = v := ⟨_, rfl⟩
            rw [c491] at p374
            obtain ⟨y492, c493⟩ : ∃ v, L344 a0 15 = v := ⟨_, rfl⟩
            rw [c493] at p375
            obtain ⟨v494, c495⟩ : ∃ v, I342 a0 12 = v := ⟨_, rfl⟩
            rw [c495] at p376
            obtain ⟨v496, c497⟩ : ∃ v, I342 a0 8 = v := ⟨_, rfl⟩
            have b498 := iv15_8 hS351.1 ta0 c497
            rw [c497] at p377
            refine q_if_eq 45 dX12_readTurner_38 (by decide) (fun h499 => ?_) (fun h499 => ?_)
            · skip
              refine tr_aload_n dX12_readTurner_45 rfl ?_
              refine tr_ldcwS dX12_readTurner_46 ld12_322 ?_
              refine q_callVi hE (M' := mX12_eatsWord) (as := [_]) dX12_readTurner_49 lk12_290 inX12_eatsWord seX12_eatsWord myX12_eatsWord (by decide) ⟨by decide, by decide⟩ rfl (kR15 hS351.1 ta0) (Nat.le_of_ble_eq_true rfl) rfl rfl (by decide) (by decide) (fk_X12_eatsWord hS351.1 (gB) ((tkN gB (tkN gB gs))) ta0 (by decide) (TxA.kp hT hS351 ta0 rfl rfl rfl (by decide +kernel) (by decide +kernel)) (by (try rw [c485]); first | done | with_reducible assumption | omega) (by (try rw [c485]); first | done | with_reducible assumption | omega) (by (try rw [c488]); first | done | with_reducible assumption | omega) (by (try rw [c491]); first | done | with_reducible assumption | omega) (by (try rw [c493]); first | done | assumption) (by (try rw [c495]); first | done | assumption) (by (try rw [c497]); first | done | assumption) (by (try rw [((hS351.cell ta0 (by decide +kernel)).trans c26)]); first | done | with_reducible assumption | omega)) ?_
              rintro v505 cn' K' N' I500 R501 L502 ⟨rfl, rfl, rfl, rfl, g503, gl504, h506, dj507, -⟩
              (try rw [pk_9] at dj507)
              have hM508 : NmM I500 R0 L344 a1 gQ := NmM.kpS hM356 g503 hS351.1 ta1 (by decide +kernel) (by decide +kernel)
              have hS509 := hS351.tr g503 (by decide +kernel) (by decide +kernel)
              have c510 : I500 a1 4 = v45 := (g503.cell ta1 (by decide +kernel)).trans c352
              have c511 : I500 a0 13 = v167 := (g503.cell ta0 (by decide +kernel)).trans c353
              have hO512 : FrO 14 a1 T I0 I500 := hO354.st g503 (by decide +kernel)
              have hL513 := hL355.tr gl504 (by decide +kernel)
              have hM514 : NmM I500 R0 L502 a1 gQ := NmM.kpL hM508 gl504 hS509.1 ta1 (by decide +kernel)
              rcases dj507 with ⟨p515, p516, p517, p518, p519, p520, p521, p522, p523, p524, p525, -⟩ | ⟨p526, p527, p528, p529, p530, p531, p532, p533, p534, p535, -⟩
              · skip
                rw [c511] at p518
                rw [c353] at p518
                obtain ⟨v536, c537⟩ : ∃ v, I500 a0 9 = v := ⟨_, rfl⟩
                have b538 := iv15_9 hS509.1 ta0 c537
                rw [c537] at p519
                rw [c537] at p520
                obtain ⟨v539, c540⟩ : ∃ v, I500 a0 10 = v := ⟨_, rfl⟩
                have b541 := iv15_10 hS509.1 ta0 c540
                rw [c540] at p521
                obtain ⟨v542, c543⟩ : ∃ v, I500 a0 11 = v := ⟨_, rfl⟩
                rw [c543] at p522
                obtain ⟨y544, c545⟩ : ∃ v, L502 a0 15 = v := ⟨_, rfl⟩
                rw [c545] at p523
                obtain ⟨v546, c547⟩ : ∃ v, I500 a0 12 = v := ⟨_, rfl⟩
                rw [c547] at p524
                obtain ⟨v548, c549⟩ : ∃ v, I500 a0 8 = v := ⟨_, rfl⟩
                have b550 := iv15_8 hS509.1 ta0 c549
                rw [c549] at p525
                refine q_if_eq 59 dX12_readTurner_52 (by decide) (fun h551 => ?_) (fun h551 => ?_)
                · skip
                  exfalso; exact om_3624102b p515 h551
                · skip
                  refine q_iconst dX12_readTurner_55 (by decide) ?_
                  intro v552 h553
                  refine tr_goto 73 dX12_readTurner_56 (by decide) ?_
                  refine tr_istore_n dX12_readTurner_73 (by decide) (by decide) ?_
                  have kd554 : tkd gB (tkN gB (tkN gB gs)) = 2 := by simp [tkd, (show tkK gB (tkN gB (tkN gB gs)) = 1 by exact om_ee8a1e2d p516), (show tkW gB (tkN gB (tkN gB gs)) = 136230 by exact om_3e12fa0a p517)]
                  have kd554x : tkd gB (tkN gB (tkN gB gs)) = v552.toInt := by exact om_4957c422 h553 kd554
                  refine tr_iload_n dX12_readTurner_74 rfl ?_
                  refine q_iconst dX12_readTurner_75 (by decide) ?_
                  intro v555 h556
                  refine q_icmp_ne 84 dX12_readTurner_76 (by decide) (fun h557 => ?_) (fun h557 => ?_)
                  · skip
                    refine sf_tuL hE hZ hS509.1 (gB) (gs) (gQ) ta0 (by exact om_7065fc1a h553) (TxA.kp hT hS509 ta0 rfl rfl rfl (by decide +kernel) (by decide +kernel)) (fun b hb => (Option.some.inj (d2.symm.trans hb)) ▸ hM514) (by (try rw [c537]); first | done | with_reducible assumption | omega) (by (try rw [c537]); first | done | with_reducible assumption | omega) (by (try rw [c540]); first | done | with_reducible assumption | omega) (by (try rw [c543]); first | done | with_reducible assumption | omega) (by (try rw [c545]); first | done | assumption) (by (try rw [c547]); first | done | assumption) (by (try rw [c549]); first | done | assumption) (by (try rw [((hS509.cell ta0 (by decide +kernel)).trans c26)]); first | done | with_reducible assumption | omega) (fun q0 z0 => by obtain rfl := Option.some.inj ((d2).symm.trans z0); (try rw [((hS509.cell ta1 (by decide +kernel)).trans c30)]); first | done | with_reducible assumption | omega) (fun q0 z0 => by obtain rfl := Option.some.inj ((d2).symm.trans z0); (try rw [((hS509.cell ta1 (by decide +kernel)).trans c34)]); first | done | with_reducible assumption | omega) (fun q0 z0 => by obtain rfl := Option.some.inj ((d2).symm.trans z0); (try rw [((hS509.cell ta1 (by decide +kernel)).trans c38)]); first | done | with_reducible assumption | omega) (fun q0 z0 => by obtain rfl := Option.some.inj ((d2).symm.trans z0); (try rw [((hS509.cell ta1 (by decide +kernel)).trans c42)]); first | done | with_reducible assumption | omega) (fun q0 z0 => by obtain rfl := Option.some.inj ((d2).symm.trans z0); (try rw [c510]); first | done | with_reducible assumption | omega) (fun q0 z0 => by obtain rfl := Option.some.inj ((d2).symm.trans z0); (try rw [((hS509.cell ta1 (by decide +kernel)).trans c50)]); first | done | with_reducible assumption | omega) (fun q0 z0 => by obtain rfl := Option.some.inj ((d2).symm.trans z0); (try rw [((hS509.cell ta1 (by decide +kernel)).trans c54)]); first | done | with_reducible assumption | omega) (fun q0 z0 => by obtain rfl := Option.some.inj ((d2).symm.trans z0); (try rw [((hS509.cell ta1 (by decide +kernel)).trans c58)]); first | done | with_reducible assumption | omega) (by first | done | assumption) (by first | done | with_reducible assumption | omega) (by first | done | with_reducible assumption | omega) (by first | done | with_reducible assumption | exact om_297b9e76 b31.2 b31.1 p32 b47.2 b47.1 p48 h67 p79 p80 w122 w126 p515 h551 h553 h556 h557) (by first | done | with_reducible assumption | omega) (by first | done | with_reducible assumption | omega) (by first | done | with_reducible assumption | omega) (by first | done | with_reducible assumption | omega) (by first | done | with_reducible assumption | omega) (by first | done | with_reducible assumption | omega) ⟨_, d2⟩ rfl rfl rfl ?_
                    rintro I558 R559 L560 ⟨g561, rp562, dj563, -⟩
                    obtain rfl : R0 = R559 := funext fun a => funext fun j => (g561.2.2 a j (wm_no rfl)).symm
                    have hS564 := hS509.tr g561 (by decide +kernel) (by decide +kernel)
                    have hO565 : FrO 14 a1 T I0 I558 := hO512.tr (rp562 _ d2)
                    rcases dj563 with ⟨p566, p567, p568, p569, p570, p571, p572, p573, p574, p575, p576, p577, p578, p579, p580, p581, p582, gl583, rp584, -⟩ | ⟨p585, p586, p587, p588, -⟩
                    · skip
                      have hL589 := hL513.tr gl583 (by decide +kernel)
                      have p590 := p567 _ d2
                      clear p567
                      rw [((hS564.cell ta1 (by decide +kernel)).trans c30)] at p590
                      have p591 := p568 _ d2
                      clear p568
                      rw [((hS564.cell ta1 (by decide +kernel)).trans c34)] at p591
                      have p592 := p569 _ d2
                      clear p569
                      rw [((hS564.cell ta1 (by decide +kernel)).trans c38)] at p592
                      have p593 := p570 _ d2
                      clear p570
                      rw [((hS564.cell ta1 (by decide +kernel)).trans c42)] at p593
                      obtain ⟨v594, c595⟩ : ∃ v, I558 a1 4 = v := ⟨_, rfl⟩
                      have b596 := iv14_4 hS564.1 ta1 c595
                      have p597 := p571 _ d2
                      clear p571
                      rw [c595] at p597
                      have p598 := p572 _ d2
                      clear p572
                      rw [((hS564.cell ta1 (by decide +kernel)).trans c50)] at p598
                      have p599 := p573 _ d2
                      clear p573
                      rw [((hS564.cell ta1 (by decide +kernel)).trans c54)] at p599
                      have p600 := p574 _ d2
                      clear p574
                      rw [((hS564.cell ta1 (by decide +kernel)).trans c58)] at p600
                      obtain ⟨v601, c602⟩ : ∃ v, I558 a0 13 = v := ⟨_, rfl⟩
                      rw [c602] at p575
                      rw [c511] at p575
                      obtain ⟨v603, c604⟩ : ∃ v, I558 a0 9 = v := ⟨_, rfl⟩
                      have b605 := iv15_9 hS564.1 ta0 c604
                      rw [c604] at p576
                      rw [c604] at p577
                      obtain ⟨v606, c607⟩ : ∃ v, I558 a0 10 = v := ⟨_, rfl⟩
                      have b608 := iv15_10 hS564.1 ta0 c607
                      rw [c607] at p578
                      obtain ⟨v609, c610⟩ : ∃ v, I558 a0 11 = v := ⟨_, rfl⟩
                      rw [c610] at p579
                      obtain ⟨y611, c612⟩ : ∃ v, L560 a0 15 = v := ⟨_, rfl⟩
                      rw [c612] at p580
                      obtain ⟨v613, c614⟩ : ∃ v, I558 a0 12 = v := ⟨_, rfl⟩
                      rw [c614] at p581
                      obtain ⟨v615, c616⟩ : ∃ v, I558 a0 8 = v := ⟨_, rfl⟩
                      have b617 := iv15_8 hS564.1 ta0 c616
                      rw [c616] at p582
                      obtain ⟨v618, c619⟩ : ∃ v, I558 a0 14 = v := ⟨_, rfl⟩
                      exact ⟨rfl, rfl, rfl, rfl, rfl, hS564, (fun dr hd => (Option.some.inj (d2.symm.trans hd)) ▸ hO565), (Or.inl ⟨(by first | done | with_reducible assumption | omega), (fun q0 z0 => by obtain rfl := Option.some.inj ((d2).symm.trans z0); (try rw [((hS564.cell ta1 (by decide +kernel)).trans c30)]); first | done | with_reducible assumption | omega), (fun q0 z0 => by obtain rfl := Option.some.inj ((d2).symm.trans z0); (try rw [((hS564.cell ta1 (by decide +kernel)).trans c34)]); first | done | with_reducible assumption | omega), (fun q0 z0 => by obtain rfl := Option.some.inj ((d2).symm.trans z0); (try rw [((hS564.cell ta1 (by decide +kernel)).trans c38)]); first | done | with_reducible assumption | omega), (fun q0 z0 => by obtain rfl := Option.some.inj ((d2).symm.trans z0); (try rw [((hS564.cell ta1 (by decide +kernel)).trans c42)]); first | done | with_reducible assumption | omega), (fun q0 z0 => by obtain rfl := Option.some.inj ((d2).symm.trans z0); (try rw [c595]); first | done | with_reducible assumption | omega), (fun q0 z0 => by obtain rfl := Option.some.inj ((d2).symm.trans z0); (try rw [((hS564.cell ta1 (by decide +kernel)).trans c50)]); first | done | with_reducible assumption | omega), (fun q0 z0 => by obtain rfl := Option.some.inj ((d2).symm.trans z0); (try rw [((hS564.cell ta1 (by decide +kernel)).trans c54)]); first | done | with_reducible assumption | omega), (fun q0 z0 => by obtain rfl := Option.some.inj ((d2).symm.trans z0); (try rw [((hS564.cell ta1 (by decide +kernel)).trans c58)]); first | done | with_reducible assumption | omega), (by (try rw [c602]); (try rw [c65]); first | done | with_reducible assumption | exact om_1c22ab7e p81 p147 p575), (by (try rw [c604]); first | done | with_reducible assumption | omega), (by (try rw [c604]); first | done | with_reducible assumption | omega), (by (try rw [c607]); first | done | with_reducible assumption | omega), (by (try rw [c610]); first | done | with_reducible assumption | omega), (by (try rw [c612]); first | done | assumption), (by (try rw [c614]); first | done | assumption), (by (try rw [c616]); first | done | assumption), hL589, rp584, trivial⟩), trivial⟩
                    · skip
                      obtain ⟨v620, c621⟩ : ∃ v, I558 a0 9 = v := ⟨_, rfl⟩
                      have b622 := iv15_9 hS564.1 ta0 c621
                      rw [c621] at p586
                      obtain ⟨v623, c624⟩ : ∃ v, I558 a0 13 = v := ⟨_, rfl⟩
                      rw [c624] at p587
                      obtain ⟨v625, c626⟩ : ∃ v, I558 a0 14 = v := ⟨_, rfl⟩
                      rw [c626] at p588
                      obtain ⟨v627, c628⟩ : ∃ v, I558 a1 4 = v := ⟨_, rfl⟩
                      have b629 := iv14_4 hS564.1 ta1 c628
                      obtain ⟨v630, c631⟩ : ∃ v, I558 a0 10 = v := ⟨_, rfl⟩
                      have b632 := iv15_10 hS564.1 ta0 c631
                      obtain ⟨v633, c634⟩ : ∃ v, I558 a0 11 = v := ⟨_, rfl⟩
                      obtain ⟨y635, c636⟩ : ∃ v, L560 a0 15 = v := ⟨_, rfl⟩
                      obtain ⟨v637, c638⟩ : ∃ v, I558 a0 12 = v := ⟨_, rfl⟩
                      obtain ⟨v639, c640⟩ : ∃ v, I558 a0 8 = v := ⟨_, rfl⟩
                      have b641 := iv15_8 hS564.1 ta0 c640
                      exact ⟨rfl, rfl, rfl, rfl, rfl, hS564, (fun dr hd => (Option.some.inj (d2.symm.trans hd)) ▸ hO565), (Or.inr (⟨(by first | done | with_reducible assumption | omega), (by (try rw [c621]); first | done | with_reducible assumption | omega), (by (try rw [c624]); first | done | with_reducible assumption | omega), (by (try rw [c626]); first | done | with_reducible assumption | omega), trivial⟩)), trivial⟩
                  · skip
                    exfalso; exact om_2f4a55fd h553 h556 h557
              · skip
                rw [c511] at p528
                rw [c353] at p528
                obtain ⟨v642, c643⟩ : ∃ v, I500 a0 9 = v := ⟨_, rfl⟩
                have b644 := iv15_9 hS509.1 ta0 c643
                rw [c643] at p529
                rw [c643] at p530
                obtain ⟨v645, c646⟩ : ∃ v, I500 a0 10 = v := ⟨_, rfl⟩
                have b647 := iv15_10 hS509.1 ta0 c646
                rw [c646] at p531
                obtain ⟨v648, c649⟩ : ∃ v, I500 a0 11 = v := ⟨_, rfl⟩
                rw [c649] at p532
                obtain ⟨y650, c651⟩ : ∃ v, L502 a0 15 = v := ⟨_, rfl⟩
                rw [c651] at p533
                obtain ⟨v652, c653⟩ : ∃ v, I500 a0 12 = v := ⟨_, rfl⟩
                rw [c653] at p534
                obtain ⟨v654, c655⟩ : ∃ v, I500 a0 8 = v := ⟨_, rfl⟩
                have b656 := iv15_8 hS509.1 ta0 c655
                rw [c655] at p535
                refine q_if_eq 59 dX12_readTurner_52 (by decide) (fun h657 => ?_) (fun h657 => ?_)
                · skip
                  refine tr_aload_n dX12_readTurner_59 rfl ?_
                  refine tr_ldcS dX12_readTurner_60 ld12_178 ?_
                  refine q_callVi hE (M' := mX12_eatsWord) (as := [_]) dX12_readTurner_62 lk12_290 inX12_eatsWord seX12_eatsWord myX12_eatsWord (by decide) ⟨by decide, by decide⟩ rfl (kR15 hS509.1 ta0) (Nat.le_of_ble_eq_true rfl) rfl rfl (by decide) (by decide) (fk_X12_eatsWord hS509.1 (gB) ((tkN gB (tkN gB gs))) ta0 (by decide) (TxA.kp hT hS509 ta0 rfl rfl rfl (by decide +kernel) (by decide +kernel)) (by (try rw [c643]); first | done | with_reducible assumption | omega) (by (try rw [c643]); first | done | with_reducible assumption | omega) (by (try rw [c646]); first | done | with_reducible assumption | omega) (by (try rw [c649]); first | done | with_reducible assumption | omega) (by (try rw [c651]); first | done | assumption) (by (try rw [c653]); first | done | assumption) (by (try rw [c655]); first | done | assumption) (by (try rw [((hS509.cell ta0 (by decide +kernel)).trans c26)]); first | done | with_reducible assumption | omega)) ?_
                  rintro v663 cn' K' N' I658 R659 L660 ⟨rfl, rfl, rfl, rfl, g661, gl662, h664, dj665, -⟩
                  (try rw [pk_0] at dj665)
                  have hM666 : NmM I658 R0 L502 a1 gQ := NmM.kpS hM514 g661 hS509.1 ta1 (by decide +kernel) (by decide +kernel)
                  have hS667 := hS509.tr g661 (by decide +kernel) (by decide +kernel)
                  have c668 : I658 a1 4 = v45 := (g661.cell ta1 (by decide +kernel)).trans c510
                  have c669 : I658 a0 13 = v167 := (g661.cell ta0 (by decide +kernel)).trans c511
                  have hO670 : FrO 14 a1 T I0 I658 := hO512.st g661 (by decide +kernel)
                  have hL671 := hL513.tr gl662 (by decide +kernel)
                  have hM672 : NmM I658 R0 L660 a1 gQ := NmM.kpL hM666 gl662 hS667.1 ta1 (by decide +kernel)
                  rcases dj665 with ⟨p673, p674, p675, p676, p677, p678, p679, p680, p681, p682, p683, -⟩ | ⟨p684, p685, p686, p687, p688, p689, p690, p691, p692, p693, -⟩
                  · skip
                    rw [c669] at p676
                    rw [c511] at p676
                    obtain ⟨v694, c695⟩ : ∃ v, I658 a0 9 = v := ⟨_, rfl⟩
                    have b696 := iv15_9 hS667.1 ta0 c695
                    rw [c695] at p677
                    rw [c695] at p678
                    obtain ⟨v697, c698⟩ : ∃ v, I658 a0 10 = v := ⟨_, rfl⟩
                    have b699 := iv15_10 hS667.1 ta0 c698
                    rw [c698] at p679
                    obtain ⟨v700, c701⟩ : ∃ v, I658 a0 11 = v := ⟨_, rfl⟩
                    rw [c701] at p680
                    obtain ⟨y702, c703⟩ : ∃ v, L660 a0 15 = v := ⟨_, rfl⟩
                    rw [c703] at p681
                    obtain ⟨v704, c705⟩ : ∃ v, I658 a0 12 = v := ⟨_, rfl⟩
                    rw [c705] at p682
                    obtain ⟨v706, c707⟩ : ∃ v, I658 a0 8 = v := ⟨_, rfl⟩
                    have b708 := iv15_8 hS667.1 ta0 c707
                    rw [c707] at p683
                    refine q_if_eq 72 dX12_readTurner_65 (by decide) (fun h709 => ?_) (fun h709 => ?_)
                    · skip
                      exfalso; exact om_3624102b p673 h709
                    · skip
                      refine q_iconst dX12_readTurner_68 (by decide) ?_
                      intro v710 h711
                      refine tr_goto 73 dX12_readTurner_69 (by decide) ?_
                      refine tr_istore_n dX12_readTurner_73 (by decide) (by decide) ?_
                      have kd712 : tkd gB (tkN gB (tkN gB gs)) = 3 := by simp [tkd, (show tkK gB (tkN gB (tkN gB gs)) = 1 by exact om_ee8a1e2d p674), (show tkW gB (tkN gB (tkN gB gs)) = 1490073635 by exact om_7c4563db p675)]
                      have kd712x : tkd gB (tkN gB (tkN gB gs)) = v710.toInt := by exact om_f89033d0 h711 kd712
                      refine tr_iload_n dX12_readTurner_74 rfl ?_
                      refine q_iconst dX12_readTurner_75 (by decide) ?_
                      intro v713 h714
                      refine q_icmp_ne 84 dX12_readTurner_76 (by decide) (fun h715 => ?_) (fun h715 => ?_)
                      · skip
                        refine sf_tuL hE hZ hS667.1 (gB) (gs) (gQ) ta0 (by exact om_b55c5ab7 h711) (TxA.kp hT hS667 ta0 rfl rfl rfl (by decide +kernel) (by decide +kernel)) (fun b hb => (Option.some.inj (d2.symm.trans hb)) ▸ hM672) (by (try rw [c695]); first | done | with_reducible assumption | omega) (by (try rw [c695]); first | done | with_reducible assumption | omega) (by (try rw [c698]); first | done | with_reducible assumption | omega) (by (try rw [c701]); first | done | with_reducible assumption | omega) (by (try rw [c703]); first | done | assumption) (by (try rw [c705]); first | done | assumption) (by (try rw [c707]); first | done | assumption) (by (try rw [((hS667.cell ta0 (by decide +kernel)).trans c26)]); first | done | with_reducible assumption | omega) (fun q0 z0 => by obtain rfl := Option.some.inj ((d2).symm.trans z0); (try rw [((hS667.cell ta1 (by decide +kernel)).trans c30)]); first | done | with_reducible assumption | omega) (fun q0 z0 => by obtain rfl := Option.some.inj ((d2).symm.trans z0); (try rw [((hS667.cell ta1 (by decide +kernel)).trans c34)]); first | done | with_reducible assumption | omega) (fun q0 z0 => by obtain rfl := Option.some.inj ((d2).symm.trans z0); (try rw [((hS667.cell ta1 (by decide +kernel)).trans c38)]); first | done | with_reducible assumption | omega) (fun q0 z0 => by obtain rfl := Option.some.inj ((d2).symm.trans z0); (try rw [((hS667.cell ta1 (by decide +kernel)).trans c42)]); first | done | with_reducible assumption | omega) (fun q0 z0 => by obtain rfl := Option.some.inj ((d2).symm.trans z0); (try rw [c668]); first | done | with_reducible assumption | omega) (fun q0 z0 => by obtain rfl := Option.some.inj ((d2).symm.trans z0); (try rw [((hS667.cell ta1 (by decide +kernel)).trans c50)]); first | done | with_reducible assumption | omega) (fun q0 z0 => by obtain rfl := Option.some.inj ((d2).symm.trans z0); (try rw [((hS667.cell ta1 (by decide +kernel)).trans c54)]); first | done | with_reducible assumption | omega) (fun q0 z0 => by obtain rfl := Option.some.inj ((d2).symm.trans z0); (try rw [((hS667.cell ta1 (by decide +kernel)).trans c58)]); first | done | with_reducible assumption | omega) (by first | done | assumption) (by first | done | with_reducible assumption | omega) (by first | done | with_reducible assumption | omega) (by first | done | with_reducible assumption | exact om_648b2025 b31.2 b31.1 p32 b47.2 b47.1 p48 h67 p79 p80 w122 w126 p673 h709 h711 h714 h715) (by first | done | with_reducible assumption | omega) (by first | done | with_reducible assumption | omega) (by first | done | with_reducible assumption | omega) (by first | done | with_reducible assumption | omega) (by first | done | with_reducible assumption | omega) (by first | done | with_reducible assumption | omega) ⟨_, d2⟩ rfl rfl rfl ?_
                        rintro I716 R717 L718 ⟨g719, rp720, dj721, -⟩
                        obtain rfl : R0 = R717 := funext fun a => funext fun j => (g719.2.2 a j (wm_no rfl)).symm
                        have hS722 := hS667.tr g719 (by decide +kernel) (by decide +kernel)
                        have hO723 : FrO 14 a1 T I0 I716 := hO670.tr (rp720 _ d2)
                        rcases dj721 with ⟨p724, p725, p726, p727, p728, p729, p730, p731, p732, p733, p734, p735, p736, p737, p738, p739, p740, gl741, rp742, -⟩ | ⟨p743, p744, p745, p746, -⟩
                        · skip
                          have hL747 := hL671.tr gl741 (by decide +kernel)
                          have p748 := p725 _ d2
                          clear p725
                          rw [((hS722.cell ta1 (by decide +kernel)).trans c30)] at p748
                          have p749 := p726 _ d2
                          clear p726
                          rw [((hS722.cell ta1 (by decide +kernel)).trans c34)] at p749
                          have p750 := p727 _ d2
                          clear p727
                          rw [((hS722.cell ta1 (by decide +kernel)).trans c38)] at p750
                          have p751 := p728 _ d2
                          clear p728
                          rw [((hS722.cell ta1 (by decide +kernel)).trans c42)] at p751
                          obtain ⟨v752, c753⟩ : ∃ v, I716 a1 4 = v := ⟨_, rfl⟩
                          have b754 := iv14_4 hS722.1 ta1 c753
                          have p755 := p729 _ d2
                          clear p729
                          rw [c753] at p755
                          have p756 := p730 _ d2
                          clear p730
                          rw [((hS722.cell ta1 (by decide +kernel)).trans c50)] at p756
                          have p757 := p731 _ d2
                          clear p731
                          rw [((hS722.cell ta1 (by decide +kernel)).trans c54)] at p757
                          have p758 := p732 _ d2
                          clear p732
                          rw [((hS722.cell ta1 (by decide +kernel)).trans c58)] at p758
                          obtain ⟨v759, c760⟩ : ∃ v, I716 a0 13 = v := ⟨_, rfl⟩
                          rw [c760] at p733
                          rw [c669] at p733
                          obtain ⟨v761, c762⟩ : ∃ v, I716 a0 9 = v := ⟨_, rfl⟩
                          have b763 := iv15_9 hS722.1 ta0 c762
                          rw [c762] at p734
                          rw [c762] at p735
                          obtain ⟨v764, c765⟩ : ∃ v, I716 a0 10 = v := ⟨_, rfl⟩
                          have b766 := iv15_10 hS722.1 ta0 c765
                          rw [c765] at p736
                          obtain ⟨v767, c768⟩ : ∃ v, I716 a0 11 = v := ⟨_, rfl⟩
                          rw [c768] at p737
                          obtain ⟨y769, c770⟩ : ∃ v, L718 a0 15 = v := ⟨_, rfl⟩
                          rw [c770] at p738
                          obtain ⟨v771, c772⟩ : ∃ v, I716 a0 12 = v := ⟨_, rfl⟩
                          rw [c772] at p739
                          obtain ⟨v773, c774⟩ : ∃ v, I716 a0 8 = v := ⟨_, rfl⟩
                          have b775 := iv15_8 hS722.1 ta0 c774
                          rw [c774] at p740
                          obtain ⟨v776, c777⟩ : ∃ v, I716 a0 14 = v := ⟨_, rfl⟩
                          exact ⟨rfl, rfl, rfl, rfl, rfl, hS722, (fun dr hd => (Option.some.inj (d2.symm.trans hd)) ▸ hO723), (Or.inl ⟨(by first | done | with_reducible assumption | omega), (fun q0 z0 => by obtain rfl := Option.some.inj ((d2).symm.trans z0); (try rw [((hS722.cell ta1 (by decide +kernel)).trans c30)]); first | done | with_reducible assumption | omega), (fun q0 z0 => by obtain rfl := Option.some.inj ((d2).symm.trans z0); (try rw [((hS722.cell ta1 (by decide +kernel)).trans c34)]); first | done | with_reducible assumption | omega), (fun q0 z0 => by obtain rfl := Option.some.inj ((d2).symm.trans z0); (try rw [((hS722.cell ta1 (by decide +kernel)).trans c38)]); first | done | with_reducible assumption | omega), (fun q0 z0 => by obtain rfl := Option.some.inj ((d2).symm.trans z0); (try rw [((hS722.cell ta1 (by decide +kernel)).trans c42)]); first | done | with_reducible assumption | omega), (fun q0 z0 => by obtain rfl := Option.some.inj ((d2).symm.trans z0); (try rw [c753]); first | done | with_reducible assumption | omega), (fun q0 z0 => by obtain rfl := Option.some.inj ((d2).symm.trans z0); (try rw [((hS722.cell ta1 (by decide +kernel)).trans c50)]); first | done | with_reducible assumption | omega), (fun q0 z0 => by obtain rfl := Option.some.inj ((d2).symm.trans z0); (try rw [((hS722.cell ta1 (by decide +kernel)).trans c54)]); first | done | with_reducible assumption | omega), (fun q0 z0 => by obtain rfl := Option.some.inj ((d2).symm.trans z0); (try rw [((hS722.cell ta1 (by decide +kernel)).trans c58)]); first | done | with_reducible assumption | omega), (by (try rw [c760]); (try rw [c65]); first | done | with_reducible assumption | exact om_1c22ab7e p81 p147 p733), (by (try rw [c762]); first | done | with_reducible assumption | omega), (by (try rw [c762]); first | done | with_reducible assumption | omega), (by (try rw [c765]); first | done | with_reducible assumption | omega), (by (try rw [c768]); first | done | with_reducible assumption | omega), (by (try rw [c770]); first | done | assumption), (by (try rw [c772]); first | done | assumption), (by (try rw [c774]); first | done | assumption), hL747, rp742, trivial⟩), trivial⟩
                        · skip
                          obtain ⟨v778, c779⟩ : ∃ v, I716 a0 9 = v := ⟨_, rfl⟩
                          have b780 := iv15_9 hS722.1 ta0 c779
                          rw [c779] at p744
                          obtain ⟨v781, c782⟩ : ∃ v, I716 a0 13 = v := ⟨_, rfl⟩
                          rw [c782] at p745
                          obtain ⟨v783, c784⟩ : ∃ v, I716 a0 14 = v := ⟨_, rfl⟩
                          rw [c784] at p746
                          obtain ⟨v785, c786⟩ : ∃ v, I716 a1 4 = v := ⟨_, rfl⟩
                          have b787 := iv14_4 hS722.1 ta1 c786
                          obtain ⟨v788, c789⟩ : ∃ v, I716 a0 10 = v := ⟨_, rfl⟩
                          have b790 := iv15_10 hS722.1 ta0 c789
                          obtain ⟨v791, c792⟩ : ∃ v, I716 a0 11 = v := ⟨_, rfl⟩
                          obtain ⟨y793, c794⟩ : ∃ v, L718 a0 15 = v := ⟨_, rfl⟩
                          obtain ⟨v795, c796⟩ : ∃ v, I716 a0 12 = v := ⟨_, rfl⟩
                          obtain ⟨v797, c798⟩ : ∃ v, I716 a0 8 = v := ⟨_, rfl⟩
                          have b799 := iv15_8 hS722.1 ta0 c798
                          exact ⟨rfl, rfl, rfl, rfl, rfl, hS722, (fun dr hd => (Option.some.inj (d2.symm.trans hd)) ▸ hO723), (Or.inr (⟨(by first | done | with_reducible assumption | omega), (by (try rw [c779]); first | done | with_reducible assumption | omega), (by (try rw [c782]); first | done | with_reducible assumption | omega), (by (try rw [c784]); first | done | with_reducible assumption | omega), trivial⟩)), trivial⟩
                      · skip
                        exfalso; exact om_7bf836a7 h711 h714 h715
                  · skip
                    rw [c669] at p686
                    rw [c511] at p686
                    obtain ⟨v800, c801⟩ : ∃ v, I658 a0 9 = v := ⟨_, rfl⟩
                    have b802 := iv15_9 hS667.1 ta0 c801
                    rw [c801] at p687
                    rw [c801] at p688
                    obtain ⟨v803, c804⟩ : ∃ v, I658 a0 10 = v := ⟨_, rfl⟩
                    have b805 := iv15_10 hS667.1 ta0 c804
                    rw [c804] at p689
                    obtain ⟨v806, c807⟩ : ∃ v, I658 a0 11 = v := ⟨_, rfl⟩
                    rw [c807] at p690
                    obtain ⟨y808, c809⟩ : ∃ v, L660 a0 15 = v := ⟨_, rfl⟩
                    rw [c809] at p691
                    obtain ⟨v810, c811⟩ : ∃ v, I658 a0 12 = v := ⟨_, rfl⟩
                    rw [c811] at p692
                    obtain ⟨v812, c813⟩ : ∃ v, I658 a0 8 = v := ⟨_, rfl⟩
                    have b814 := iv15_8 hS667.1 ta0 c813
                    rw [c813] at p693
                    refine q_if_eq 72 dX12_readTurner_65 (by decide) (fun h815 => ?_) (fun h815 => ?_)
                    · skip
                      refine q_iconst dX12_readTurner_72 (by decide) ?_
                      intro v816 h817
                      refine tr_istore_n dX12_readTurner_73 (by decide) (by decide) ?_
                      have kd818 : tkd gB (tkN gB (tkN gB gs)) = -1 := tkd_no p211 p369 p527 p685
                      have kd818x : tkd gB (tkN gB (tkN gB gs)) = v816.toInt := by exact om_171d53ce h817 kd818
                      refine tr_iload_n dX12_readTurner_74 rfl ?_
                      refine q_iconst dX12_readTurner_75 (by decide) ?_
                      intro v819 h820
                      refine q_icmp_ne 84 dX12_readTurner_76 (by decide) (fun h821 => ?_) (fun h821 => ?_)
                      · skip
                        exfalso; exact om_51c27872 h817 h820 h821
                      · skip
                        replace hF := hF.pos (by exact om_dd98535d kd818)
                        replace hP := hP.pos (by exact om_dd98535d kd818)
                        refine tr_aload_n dX12_readTurner_79 rfl ?_
                        refine q_iconst dX12_readTurner_80 (by decide) ?_
                        intro v822 h823
                        refine q_callVv hE (M' := mX12_flaw) (as := [_]) dX12_readTurner_81 lk12_145 inX12_flaw seX12_flaw myX12_flaw (by decide) ⟨by decide, by decide⟩ rfl (kR15 hS667.1 ta0) (Nat.le_of_ble_eq_true rfl) rfl rfl (by decide) (by decide) (fk_X12_flaw hS667.1  ta0 (by exact om_95922198 h823) (by (try rw [c801]); first | done | with_reducible assumption | exact om_a938bfda p149 p148 b171.1 p213 p371 p529 p687)) ?_
                        rintro cn' K' N' I824 R825 L826 ⟨rfl, rfl, rfl, rfl, rfl, g827, p830, p831, p832, -⟩
                        have hM833 : NmM I824 R0 L660 a1 gQ := NmM.kpS hM672 g827 hS667.1 ta1 (by decide +kernel) (by decide +kernel)
                        have hS834 := hS667.tr g827 (by decide +kernel) (by decide +kernel)
                        have c835 : I824 a1 4 = v45 := (g827.cell ta1 (by decide +kernel)).trans c668
                        have c836 : I824 a0 10 = v803 := (g827.cell ta0 (by decide +kernel)).trans c804
                        have c837 : I824 a0 11 = v806 := (g827.cell ta0 (by decide +kernel)).trans c807
                        have c838 : I824 a0 12 = v810 := (g827.cell ta0 (by decide +kernel)).trans c811
                        have c839 : I824 a0 8 = v812 := (g827.cell ta0 (by decide +kernel)).trans c813
                        have hO840 : FrO 14 a1 T I0 I824 := hO670.st g827 (by decide +kernel)
                        obtain ⟨v841, c842⟩ : ∃ v, I824 a0 9 = v := ⟨_, rfl⟩
                        have b843 := iv15_9 hS834.1 ta0 c842
                        rw [c842] at p830
                        obtain ⟨v844, c845⟩ : ∃ v, I824 a0 13 = v := ⟨_, rfl⟩
                        rw [c845] at p831
                        obtain ⟨v846, c847⟩ : ∃ v, I824 a0 14 = v := ⟨_, rfl⟩
                        rw [c847] at p832
                        rw [c804] at p832
                        refine sf_tuO hE hZ hS834.1 (gB) ta0 (by (try rw [c842]); first | done | with_reducible assumption | omega) ⟨_, d2⟩ rfl rfl rfl ?_
                        rintro I848 R849 L850 ⟨g851, p852, p853, p854, -⟩
                        obtain rfl : R0 = R849 := funext fun a => funext fun j => (g851.2.2 a j (wm_no rfl)).symm
                        have hS855 := hS834.tr g851 (by decide +kernel) (by decide +kernel)
                        have c856 : I848 a1 4 = v45 := (g851.cell ta1 (by decide +kernel)).trans c835
                        have hO857 : FrO 14 a1 T I0 I848 := hO840.st g851 (by decide +kernel)
                        obtain ⟨v858, c859⟩ : ∃ v, I848 a0 9 = v := ⟨_, rfl⟩
                        have b860 := iv15_9 hS855.1 ta0 c859
                        rw [c859] at p852
                        obtain ⟨v861, c862⟩ : ∃ v, I848 a0 13 = v := ⟨_, rfl⟩
                        rw [c862] at p853
                        rw [c845] at p853
                        obtain ⟨v863, c864⟩ : ∃ v, I848 a0 14 = v := ⟨_, rfl⟩
                        rw [c864] at p854
                        rw [c847] at p854
                        have eF := hF.eq
                        have eP := hP.eq
                        obtain ⟨v865, c866⟩ : ∃ v, I848 a0 10 = v := ⟨_, rfl⟩
                        have b867 := iv15_10 hS855.1 ta0 c866
                        obtain ⟨v868, c869⟩ : ∃ v, I848 a0 11 = v := ⟨_, rfl⟩
                        obtain ⟨y870, c871⟩ : ∃ v, L850 a0 15 = v := ⟨_, rfl⟩
                        obtain ⟨v872, c873⟩ : ∃ v, I848 a0 12 = v := ⟨_, rfl⟩
                        obtain ⟨v874, c875⟩ : ∃ v, I848 a0 8 = v := ⟨_, rfl⟩
                        have b876 := iv15_8 hS855.1 ta0 c875
                        exact ⟨rfl, rfl, rfl, rfl, rfl, hS855, (fun dr hd => (Option.some.inj (d2.symm.trans hd)) ▸ hO857), (Or.inr (⟨(by first | done | with_reducible assumption | exact om_7fac24c5 eF), (by (try rw [c859]); first | done | with_reducible assumption | omega), (by (try rw [c862]); first | done | with_reducible assumption | exact om_93aef1c0 h823 p831 p853 eF), (by (try rw [c864]); first | done | with_reducible assumption | exact om_b448b67e p215 p373 p531 p689 p832 p854 eP), trivial⟩)), trivial⟩
                    · skip
                      exfalso; exact om_3a97d4a5 p684 h815
                · skip
                  exfalso; exact om_3a97d4a5 p526 h657
            · skip
              exfalso; exact om_3a97d4a5 p368 h499
        · skip
          exfalso; exact om_3a97d4a5 p210 h341
    · skip
      obtain ⟨v877, c878⟩ : ∃ v, I131 a0 9 = v := ⟨_, rfl⟩
      have b879 := iv15_9 hS139.1 ta0 c878
      rw [c878] at p157
      obtain ⟨v880, c881⟩ : ∃ v, I131 a0 13 = v := ⟨_, rfl⟩
      rw [c881] at p158
      obtain ⟨v882, c883⟩ : ∃ v, I131 a0 14 = v := ⟨_, rfl⟩
      rw [c883] at p159
      replace hF := hF.pos (by exact om_ea380f8a p156)
      replace hP := hP.pos (by exact om_ea380f8a p156)
      refine tr_lstore_n dX12_readTurner_16 (by decide) (by decide) (by decide) ?_
      refine sf_oT17 hE hZ hS139.1 (gB) ta0 (by (try rw [c878]); first | done | with_reducible assumption | omega) ⟨_, d2⟩ rfl rfl ?_
      rintro I884 R885 L886 ⟨g887, p888, p889, p890, -⟩
      obtain rfl : R0 = R885 := funext fun a => funext fun j => (g887.2.2 a j (wm_no rfl)).symm
      have hS891 := hS139.tr g887 (by decide +kernel) (by decide +kernel)
      have c892 : I884 a1 4 = v45 := (g887.cell ta1 (by decide +kernel)).trans c140
      have hO893 : FrO 14 a1 T I0 I884 := hO141.st g887 (by decide +kernel)
      obtain ⟨v894, c895⟩ : ∃ v, I884 a0 9 = v := ⟨_, rfl⟩
      have b896 := iv15_9 hS891.1 ta0 c895
      rw [c895] at p888
      obtain ⟨v897, c898⟩ : ∃ v, I884 a0 13 = v := ⟨_, rfl⟩
      rw [c898] at p889
      rw [c881] at p889
      obtain ⟨v899, c900⟩ : ∃ v, I884 a0 14 = v := ⟨_, rfl⟩
      rw [c900] at p890
      rw [c883] at p890
      have eF := hF.eq
      have eP := hP.eq
      obtain ⟨v901, c902⟩ : ∃ v, I884 a0 10 = v := ⟨_, rfl⟩
      have b903 := iv15_10 hS891.1 ta0 c902
      obtain ⟨v904, c905⟩ : ∃ v, I884 a0 11 = v := ⟨_, rfl⟩
      obtain ⟨y906, c907⟩ : ∃ v, L886 a0 15 = v := ⟨_, rfl⟩
      obtain ⟨v908, c909⟩ : ∃ v, I884 a0 12 = v := ⟨_, rfl⟩
      obtain ⟨v910, c911⟩ : ∃ v, I884 a0 8 = v := ⟨_, rfl⟩
      have b912 := iv15_8 hS891.1 ta0 c911
      exact ⟨rfl, rfl, rfl, rfl, rfl, hS891, (fun dr hd => (Option.some.inj (d2.symm.trans hd)) ▸ hO893), (Or.inr (⟨(by first | done | with_reducible assumption | exact om_7fac24c5 eF), (by (try rw [c895]); first | done | with_reducible assumption | omega), (by (try rw [c898]); first | done | with_reducible assumption | exact om_9adad658 p158 p889 eF), (by (try rw [c900]); first | done | with_reducible assumption | exact om_3998a42e p159 p890 eP), trivial⟩)), trivial⟩
    · skip
      obtain ⟨v913, c914⟩ : ∃ v, I131 a0 9 = v := ⟨_, rfl⟩
      have b915 := iv15_9 hS139.1 ta0 c914
      rw [c914] at p162
      obtain ⟨v916, c917⟩ : ∃ v, I131 a0 13 = v := ⟨_, rfl⟩
      rw [c917] at p163
      obtain ⟨v918, c919⟩ : ∃ v, I131 a0 14 = v := ⟨_, rfl⟩
      rw [c919] at p164
      replace hF := hF.neg (by exact om_e4d065d5 p160)
      replace hP := hP.neg (by exact om_e4d065d5 p160)
      replace hF := hF.pos (by exact om_1b2eae89 p161)
      replace hP := hP.pos (by exact om_1b2eae89 p161)
      refine tr_lstore_n dX12_readTurner_16 (by decide) (by decide) (by decide) ?_
      refine sf_oT17 hE hZ hS139.1 (gB) ta0 (by (try rw [c914]); first | done | with_reducible assumption | omega) ⟨_, d2⟩ rfl rfl ?_
      rintro I920 R921 L922 ⟨g923, p924, p925, p926, -⟩
      obtain rfl : R0 = R921 := funext fun a => funext fun j => (g923.2.2 a j (wm_no rfl)).symm
      have hS927 := hS139.tr g923 (by decide +kernel) (by decide +kernel)
      have c928 : I920 a1 4 = v45 := (g923.cell ta1 (by decide +kernel)).trans c140
      have hO929 : FrO 14 a1 T I0 I920 := hO141.st g923 (by decide +kernel)
      obtain ⟨v930, c931⟩ : ∃ v, I920 a0 9 = v := ⟨_, rfl⟩
      have b932 := iv15_9 hS927.1 ta0 c931
      rw [c931] at p924
      obtain ⟨v933, c934⟩ : ∃ v, I920 a0 13 = v := ⟨_, rfl⟩
      rw [c934] at p925
      rw [c917] at p925
      obtain ⟨v935, c936⟩ : ∃ v, I920 a0 14 = v := ⟨_, rfl⟩
      rw [c936] at p926
      rw [c919] at p926
      have eF := hF.eq
      have eP := hP.eq
      obtain ⟨v937, c938⟩ : ∃ v, I920 a0 10 = v := ⟨_, rfl⟩
      have b939 := iv15_10 hS927.1 ta0 c938
      obtain ⟨v940, c941⟩ : ∃ v, I920 a0 11 = v := ⟨_, rfl⟩
      obtain ⟨y942, c943⟩ : ∃ v, L922 a0 15 = v := ⟨_, rfl⟩
      obtain ⟨v944, c945⟩ : ∃ v, I920 a0 12 = v := ⟨_, rfl⟩
      obtain ⟨v946, c947⟩ : ∃ v, I920 a0 8 = v := ⟨_, rfl⟩
      have b948 := iv15_8 hS927.1 ta0 c947
      exact ⟨rfl, rfl, rfl, rfl, rfl, hS927, (fun dr hd => (Option.some.inj (d2.symm.trans hd)) ▸ hO929), (Or.inr (⟨(by first | done | with_reducible assumption | exact om_c731b21c eF), (by (try rw [c931]); first | done | with_reducible assumption | omega), (by (try rw [c934]); first | done | with_reducible assumption | exact om_fc35f838 p163 p925 eF), (by (try rw [c936]); first | done | with_reducible assumption | exact om_3998a42e p164 p926 eP), trivial⟩)), trivial⟩
  · skip
    obtain ⟨v949, c950⟩ : ∃ v, I68 a0 9 = v := ⟨_, rfl⟩
    have b951 := iv15_9 hS76.1 ta0 c950
    rw [c950] at p91
    obtain ⟨v952, c953⟩ : ∃ v, I68 a0 13 = v := ⟨_, rfl⟩
    rw [c953] at p92
    obtain ⟨v954, c955⟩ : ∃ v, I68 a0 14 = v := ⟨_, rfl⟩
    rw [c955] at p93
    have p956 := p61
    unfold Q7M at p956
    replace hF := hF.pos (by exact om_16a01cd5 pre18 p48 h67 p90)
    replace hP := hP.pos (by exact om_16a01cd5 pre18 p48 h67 p90)
    clear p956
    refine sf_oT12 hE hZ hS76.1 (gB) ta0 (by (try rw [c950]); first | done | with_reducible assumption | omega) ⟨_, d2⟩ rfl ?_
    rintro I957 R958 L959 ⟨g960, p961, p962, p963, -⟩
    obtain rfl : R0 = R958 := funext fun a => funext fun j => (g960.2.2 a j (wm_no rfl)).symm
    have hS964 := hS76.tr g960 (by decide +kernel) (by decide +kernel)
    have c965 : I957 a1 4 = v45 := (g960.cell ta1 (by decide +kernel)).trans c77
    have hO966 : FrO 14 a1 T I0 I957 := hO78.st g960 (by decide +kernel)
    obtain ⟨v967, c968⟩ : ∃ v, I957 a0 9 = v := ⟨_, rfl⟩
    have b969 := iv15_9 hS964.1 ta0 c968
    rw [c968] at p961
    obtain ⟨v970, c971⟩ : ∃ v, I957 a0 13 = v := ⟨_, rfl⟩
    rw [c971] at p962
    rw [c953] at p962
    obtain ⟨v972, c973⟩ : ∃ v, I957 a0 14 = v := ⟨_, rfl⟩
    rw [c973] at p963
    rw [c955] at p963
    have eF := hF.eq
    have eP := hP.eq
    obtain ⟨v974, c975⟩ : ∃ v, I957 a0 10 = v := ⟨_, rfl⟩
    have b976 := iv15_10 hS964.1 ta0 c975
    obtain ⟨v977, c978⟩ : ∃ v, I957 a0 11 = v := ⟨_, rfl⟩
    obtain ⟨y979, c980⟩ : ∃ v, L959 a0 15 = v := ⟨_, rfl⟩
    obtain ⟨v981, c982⟩ : ∃ v, I957 a0 12 = v := ⟨_, rfl⟩
    obtain ⟨v983, c984⟩ : ∃ v, I957 a0 8 = v := ⟨_, rfl⟩
    have b985 := iv15_8 hS964.1 ta0 c984
    exact ⟨rfl, rfl, rfl, rfl, rfl, hS964, (fun dr hd => (Option.some.inj (d2.symm.trans hd)) ▸ hO966), (Or.inr (⟨(by first | done | with_reducible assumption | exact om_64c62efe eF), (by (try rw [c968]); first | done | with_reducible assumption | omega), (by (try rw [c971]); first | done | with_reducible assumption | exact om_7fd518bd p92 p962 eF), (by (try rw [c973]); first | done | with_reducible assumption | exact om_8e6888af p11 p93 p963 eP), trivial⟩)), trivial⟩
  · skip
    obtain ⟨v986, c987⟩ : ∃ v, I68 a0 9 = v := ⟨_, rfl⟩
    have b988 := iv15_9 hS76.1 ta0 c987
    rw [c987] at p96
    obtain ⟨v989, c990⟩ : ∃ v, I68 a0 13 = v := ⟨_, rfl⟩
    rw [c990] at p97
    obtain ⟨v991, c992⟩ : ∃ v, I68 a0 14 = v := ⟨_, rfl⟩
    rw [c992] at p98
    have p993 := p61
    unfold Q7M at p993
    replace hF := hF.neg (by exact om_78518ce7 pre18 b47.2 b47.1 p48 h67 p94 p95 p993)
    replace hP := hP.neg (by exact om_78518ce7 pre18 b47.2 b47.1 p48 h67 p94 p95 p993)
    replace hF := hF.pos (by exact om_7aa93647 pre18 p95 p993)
    replace hP := hP.pos (by exact om_7aa93647 pre18 p95 p993)
    clear p993
    refine sf_oT12 hE hZ hS76.1 (gB) ta0 (by (try rw [c987]); first | done | with_reducible assumption | omega) ⟨_, d2⟩ rfl ?_
    rintro I994 R995 L996 ⟨g997, p998, p999, p1000, -⟩
    obtain rfl : R0 = R995 := funext fun a => funext fun j => (g997.2.2 a j (wm_no rfl)).symm
    have hS1001 := hS76.tr g997 (by decide +kernel) (by decide +kernel)
    have c1002 : I994 a1 4 = v45 := (g997.cell ta1 (by decide +kernel)).trans c77
    have hO1003 : FrO 14 a1 T I0 I994 := hO78.st g997 (by decide +kernel)
    obtain ⟨v1004, c1005⟩ : ∃ v, I994 a0 9 = v := ⟨_, rfl⟩
    have b1006 := iv15_9 hS1001.1 ta0 c1005
    rw [c1005] at p998
    obtain ⟨v1007, c1008⟩ : ∃ v, I994 a0 13 = v := ⟨_, rfl⟩
    rw [c1008] at p999
    rw [c990] at p999
    obtain ⟨v1009, c1010⟩ : ∃ v, I994 a0 14 = v := ⟨_, rfl⟩
    rw [c1010] at p1000
    rw [c992] at p1000
    have eF := hF.eq
    have eP := hP.eq
    obtain ⟨v1011, c1012⟩ : ∃ v, I994 a0 10 = v := ⟨_, rfl⟩
    have b1013 := iv15_10 hS1001.1 ta0 c1012
    obtain ⟨v1014, c1015⟩ : ∃ v, I994 a0 11 = v := ⟨_, rfl⟩
    obtain ⟨y1016, c1017⟩ : ∃ v, L996 a0 15 = v := ⟨_, rfl⟩
    obtain ⟨v1018, c1019⟩ : ∃ v, I994 a0 12 = v := ⟨_, rfl⟩
    obtain ⟨v1020, c1021⟩ : ∃ v, I994 a0 8 = v := ⟨_, rfl⟩
    have b1022 := iv15_8 hS1001.1 ta0 c1021
    exact ⟨rfl, rfl, rfl, rfl, rfl, hS1001, (fun dr hd => (Option.some.inj (d2.symm.trans hd)) ▸ hO1003), (Or.inr (⟨(by first | done | with_reducible assumption | exact om_3a8e1f7c eF), (by (try rw [c1005]); first | done | with_reducible assumption | omega), (by (try rw [c1008]); first | done | with_reducible assumption | exact om_1428d4dd p97 p999 eF), (by (try rw [c1010]); first | done | with_reducible assumption | exact om_8e6888af p11 p98 p1000 eP), trivial⟩)), trivial⟩
