theorem FrM.ro {R : cz_R} {b : Nat} {T : Nat → Nat} {I J : cz_I} (h : RoF rdm T I J) : FrM R b T I J := fun a j ta _ => h a j ta
def wif_oT147 : List Nat := [968, 969, 970, 971, 972, 973, 974]
def wrf_oT147 : List Nat := []
def wlf_oT147 : List Nat := []
set_option maxHeartbeats 4000000 in
theorem sf_oT147 {X : cz_X} (hE : cz_env X) {T : Nat → Nat} {cn : Nat} {K N : Nat → Nat} {I0 : cz_I} {R0 : cz_R} {L0 : cz_L} {Q : cz_Q} (hZ : cz_Z X mX12_readTurner Q) (hW0 : Wf T cn K N I0 R0 0) (gB : cz_B) {a0 : Nat} (ta0 : T a0 = 15) {y1 : Int64} {x2 : Int32} {x3 : Int32} {x4 : Int32} {x5 : Int32} {x6 : Int32} (pre0 : (I0 a0 9).toInt = 5) (nn4 : ∃ b, R0 a0 4 = some b) {ls : Nat → Option Value} (hl0 : ls 0 = some (.ref a0)) (hl1 : ls 1 = some (.long y1)) (hl3 : ls 3 = some (.int x2)) (hl4 : ls 4 = some (.int x3)) (hl5 : ls 5 = some (.int x4)) (hl6 : ls 6 = some (.int x5)) (hl7 : ls 7 = some (.int x6)) (hq : ∀ (I' : cz_I) (R' : cz_R) (L' : cz_L), St T cn K N 0 wif_oT147 wrf_oT147 I0 R0 I' R' ∧ ((I' a0 9).toInt = 5) ∧ ((I' a0 13).toInt = (I0 a0 13).toInt) ∧ ((I' a0 14).toInt = (I0 a0 14).toInt) ∧ (∀ b, R0 a0 4 = some b → FrM R0 b T I0 I') ∧ True → Q none cn K N I' R' L') : Tr X mX12_readTurner 147 ls [] cn K N I0 R0 L0 0 0 := by
  have hS0 : St T cn K N 0 wif_oT147 wrf_oT147 I0 R0 I0 R0 := St.rf0 hW0
  have hL0 : LgS T wlf_oT147 L0 L0 := LgS.rf0
  obtain ⟨a1, d2⟩ := nn4
  have ta1 : T a1 = 14 := hW0.rsN ta0 rfl d2
  obtain ⟨v3, c4⟩ : ∃ v, I0 a0 9 = v := ⟨_, rfl⟩
  have b5 := iv15_9 hS0.1 ta0 c4
  have p6 := pre0
  rw [c4] at p6
  obtain ⟨v7, c8⟩ : ∃ v, I0 a0 13 = v := ⟨_, rfl⟩
  obtain ⟨v9, c10⟩ : ∃ v, I0 a0 14 = v := ⟨_, rfl⟩
  refine tr_aload_n dX12_readTurner_147 hl0 ?_
  refine tr_ldcS dX12_readTurner_148 ld12_253 ?_
  refine q_callVv hE (M' := mX12_needs) (as := [_]) dX12_readTurner_150 lk12_157 inX12_needs seX12_needs myX12_needs (by decide) ⟨by decide, by decide⟩ rfl (kR15 hS0.1 ta0) (Nat.le_of_ble_eq_true rfl) rfl rfl (by decide) (by decide) (k_X12_needs hS0.1 ta0 (by decide)) ?_
  rintro cn' K' N' I11 R12 L13 ⟨rfl, rfl, rfl, rfl, g14, w16, -⟩
  have hS17 := hS0.tr g14 (by decide +kernel) (by decide +kernel)
  have ov18 := w16.over (by rw [c4]; exact om_394b70a2 p6)
  obtain ⟨v19, c20⟩ : ∃ v, I11 a0 9 = v := ⟨_, rfl⟩
  have b21 := iv15_9 hS17.1 ta0 c20
  obtain ⟨v22, c23⟩ : ∃ v, I11 a0 13 = v := ⟨_, rfl⟩
  obtain ⟨v24, c25⟩ : ∃ v, I11 a0 14 = v := ⟨_, rfl⟩
  (try rw [c20] at ov18)
  (try rw [c23] at ov18)
  (try rw [c25] at ov18)
  (try rw [c4] at ov18)
  (try rw [c8] at ov18)
  (try rw [c10] at ov18)
  refine q_iconst dX12_readTurner_153 (by decide) ?_
  intro v26 h27
  refine tr_istore dX12_readTurner_154 (by decide) (by decide) ?_
  refine q_iconst dX12_readTurner_156 (by decide) ?_
  intro v28 h29
  refine tr_istore dX12_readTurner_157 (by decide) (by decide) ?_
  refine tr_iload dX12_readTurner_159 rfl ?_
  refine q_if_eq 227 dX12_readTurner_161 (by decide) (fun h30 => ?_) (fun h30 => ?_)
  · skip
    exfalso; exact om_3624102b h29 h30
  · skip
    refine tr_aload_n dX12_readTurner_164 hl0 ?_
    refine q_getI dX12_readTurner_165 fl12_99 (kR15 hS17.1 ta0) c20 ?_
    refine q_iconst dX12_readTurner_168 (by decide) ?_
    intro v31 h32
    refine q_icmp_eq 227 dX12_readTurner_169 (by decide) (fun h33 => ?_) (fun h33 => ?_)
    · skip
      refine tr_aload_n dX12_readTurner_227 hl0 ?_
      refine q_getI dX12_readTurner_228 fl12_99 (kR15 hS17.1 ta0) c20 ?_
      refine q_iconst dX12_readTurner_231 (by decide) ?_
      intro v34 h35
      refine q_icmp_ne 236 dX12_readTurner_232 (by decide) (fun h36 => ?_) (fun h36 => ?_)
      · skip
        exfalso; exact om_1fa3e129 ov18.1 h35 h36
      · skip
        exact tr_vret hZ dX12_readTurner_235 rfl (by decide) (by decide) (hq _ _ _ ⟨hS17, (by (try rw [c20]); first | done | with_reducible assumption | exact om_394b70a2 ov18.1), (by (try rw [c23]); (try rw [c8]); first | done | with_reducible assumption | exact om_acd7a85a ov18.2.1), (by (try rw [c25]); (try rw [c10]); first | done | with_reducible assumption | exact om_acd7a85a ov18.2.2), (fun b hb => (Option.some.inj (d2.symm.trans hb)) ▸ ((FrM.rf (R := R0) (b := a1) (T := T)).st g14 (by decide +kernel))), trivial⟩)
    · skip
      exfalso; exact om_1fa3e129 ov18.1 h32 h33
def wif_oT135 : List Nat := [968, 969, 970, 971, 972, 973, 974]
def wrf_oT135 : List Nat := []
def wlf_oT135 : List Nat := []
set_option maxHeartbeats 4000000 in
theorem sf_oT135 {X : cz_X} (hE : cz_env X) {T : Nat → Nat} {cn : Nat} {K N : Nat → Nat} {I0 : cz_I} {R0 : cz_R} {L0 : cz_L} {Q : cz_Q} (hZ : cz_Z X mX12_readTurner Q) (hW0 : Wf T cn K N I0 R0 0) (gB : cz_B) {a0 : Nat} (ta0 : T a0 = 15) {y1 : Int64} {x2 : Int32} {x3 : Int32} {x4 : Int32} {x5 : Int32} (pre0 : (I0 a0 9).toInt = 5) (nn4 : ∃ b, R0 a0 4 = some b) {ls : Nat → Option Value} (hl0 : ls 0 = some (.ref a0)) (hl1 : ls 1 = some (.long y1)) (hl3 : ls 3 = some (.int x2)) (hl4 : ls 4 = some (.int x3)) (hl5 : ls 5 = some (.int x4)) (hl6 : ls 6 = some (.int x5)) (hq : ∀ (I' : cz_I) (R' : cz_R) (L' : cz_L), St T cn K N 0 wif_oT135 wrf_oT135 I0 R0 I' R' ∧ ((I' a0 9).toInt = 5) ∧ ((I' a0 13).toInt = (I0 a0 13).toInt) ∧ ((I' a0 14).toInt = (I0 a0 14).toInt) ∧ (∀ b, R0 a0 4 = some b → FrM R0 b T I0 I') ∧ True → Q none cn K N I' R' L') : Tr X mX12_readTurner 135 ls [] cn K N I0 R0 L0 0 0 := by
  have hS0 : St T cn K N 0 wif_oT135 wrf_oT135 I0 R0 I0 R0 := St.rf0 hW0
  have hL0 : LgS T wlf_oT135 L0 L0 := LgS.rf0
  obtain ⟨a1, d2⟩ := nn4
  have ta1 : T a1 = 14 := hW0.rsN ta0 rfl d2
  obtain ⟨v3, c4⟩ : ∃ v, I0 a0 9 = v := ⟨_, rfl⟩
  have b5 := iv15_9 hS0.1 ta0 c4
  have p6 := pre0
  rw [c4] at p6
  obtain ⟨v7, c8⟩ : ∃ v, I0 a0 13 = v := ⟨_, rfl⟩
  obtain ⟨v9, c10⟩ : ∃ v, I0 a0 14 = v := ⟨_, rfl⟩
  refine tr_aload_n dX12_readTurner_135 hl0 ?_
  refine tr_ldcwS dX12_readTurner_136 ld12_327 ?_
  refine q_iconst dX12_readTurner_139 (by decide) ?_
  intro v11 h12
  refine q_bipush dX12_readTurner_140 (by decide +kernel) ?_
  intro v13 h14
  refine q_callVi hE (M' := mX12_readPart) (as := [_, _, _]) dX12_readTurner_142 lk12_249 inX12_readPart seX12_readPart myX12_readPart (by decide) ⟨by decide, by decide⟩ rfl (kR15 hS0.1 ta0) (Nat.le_of_ble_eq_true rfl) rfl rfl (by decide) (by decide) (k_X12_readPart hS0.1 ta0 (by decide)) ?_
  rintro v19 cn' K' N' I15 R16 L17 ⟨rfl, rfl, rfl, rfl, g18, p20, w21, -⟩
  have hS22 := hS0.tr g18 (by decide +kernel) (by decide +kernel)
  have b23 : 1 ≤ v19.toInt ∧ v19.toInt ≤ 20 := by exact om_70437301 h12 h14 p20
  clear p20
  have ov24 := w21.over (by rw [c4]; exact om_394b70a2 p6)
  obtain ⟨v25, c26⟩ : ∃ v, I15 a0 9 = v := ⟨_, rfl⟩
  have b27 := iv15_9 hS22.1 ta0 c26
  obtain ⟨v28, c29⟩ : ∃ v, I15 a0 13 = v := ⟨_, rfl⟩
  obtain ⟨v30, c31⟩ : ∃ v, I15 a0 14 = v := ⟨_, rfl⟩
  (try rw [c26] at ov24)
  (try rw [c29] at ov24)
  (try rw [c31] at ov24)
  (try rw [c4] at ov24)
  (try rw [c8] at ov24)
  (try rw [c10] at ov24)
  refine tr_istore dX12_readTurner_145 (by decide) (by decide) ?_
  refine sf_oT147 hE hZ hS22.1 (gB) ta0 (by (try rw [c26]); first | done | with_reducible assumption | exact om_394b70a2 ov24.1) ⟨_, d2⟩ hl0 hl1 hl3 hl4 hl5 hl6 rfl ?_
  rintro I32 R33 L34 ⟨g35, p36, p37, p38, rp39, -⟩
  obtain rfl : R0 = R33 := funext fun a => funext fun j => (g35.2.2 a j (wm_no rfl)).symm
  have hS40 := hS22.tr g35 (by decide +kernel) (by decide +kernel)
  obtain ⟨v41, c42⟩ : ∃ v, I32 a0 9 = v := ⟨_, rfl⟩
  have b43 := iv15_9 hS40.1 ta0 c42
  rw [c42] at p36
  obtain ⟨v44, c45⟩ : ∃ v, I32 a0 13 = v := ⟨_, rfl⟩
  rw [c45] at p37
  rw [c29] at p37
  obtain ⟨v46, c47⟩ : ∃ v, I32 a0 14 = v := ⟨_, rfl⟩
  rw [c47] at p38
  rw [c31] at p38
  exact hq _ _ _ ⟨hS40, (by (try rw [c42]); first | done | with_reducible assumption | omega), (by (try rw [c45]); (try rw [c8]); first | done | with_reducible assumption | exact om_9fa72578 ov24.2.1 p37), (by (try rw [c47]); (try rw [c10]); first | done | with_reducible assumption | exact om_9fa72578 ov24.2.2 p38), (fun b hb => (Option.some.inj (d2.symm.trans hb)) ▸ (((FrM.rf (R := R0) (b := a1) (T := T)).st g18 (by decide +kernel)).st g35 (by decide +kernel))), trivial⟩
def wif_oT123 : List Nat := [968, 969, 970, 971, 972, 973, 974]
def wrf_oT123 : List Nat := []
def wlf_oT123 : List Nat := []
set_option maxHeartbeats 4000000 in
theorem sf_oT123 {X : cz_X} (hE : cz_env X) {T : Nat → Nat} {cn : Nat} {K N : Nat → Nat} {I0 : cz_I} {R0 : cz_R} {L0 : cz_L} {Q : cz_Q} (hZ : cz_Z X mX12_readTurner Q) (hW0 : Wf T cn K N I0 R0 0) (gB : cz_B) {a0 : Nat} (ta0 : T a0 = 15) {y1 : Int64} {x2 : Int32} {x3 : Int32} {x4 : Int32} (pre0 : (I0 a0 9).toInt = 5) (nn4 : ∃ b, R0 a0 4 = some b) {ls : Nat → Option Value} (hl0 : ls 0 = some (.ref a0)) (hl1 : ls 1 = some (.long y1)) (hl3 : ls 3 = some (.int x2)) (hl4 : ls 4 = some (.int x3)) (hl5 : ls 5 = some (.int x4)) (hq : ∀ (I' : cz_I) (R' : cz_R) (L' : cz_L), St T cn K N 0 wif_oT123 wrf_oT123 I0 R0 I' R' ∧ ((I' a0 9).toInt = 5) ∧ ((I' a0 13).toInt = (I0 a0 13).toInt) ∧ ((I' a0 14).toInt = (I0 a0 14).toInt) ∧ (∀ b, R0 a0 4 = some b → FrM R0 b T I0 I') ∧ True → Q none cn K N I' R' L') : Tr X mX12_readTurner 123 ls [] cn K N I0 R0 L0 0 0 := by
  have hS0 : St T cn K N 0 wif_oT123 wrf_oT123 I0 R0 I0 R0 := St.rf0 hW0
  have hL0 : LgS T wlf_oT123 L0 L0 := LgS.rf0
  obtain ⟨a1, d2⟩ := nn4
  have ta1 : T a1 = 14 := hW0.rsN ta0 rfl d2
  obtain ⟨v3, c4⟩ : ∃ v, I0 a0 9 = v := ⟨_, rfl⟩
  have b5 := iv15_9 hS0.1 ta0 c4
  have p6 := pre0
  rw [c4] at p6
  obtain ⟨v7, c8⟩ : ∃ v, I0 a0 13 = v := ⟨_, rfl⟩
  obtain ⟨v9, c10⟩ : ∃ v, I0 a0 14 = v := ⟨_, rfl⟩
  refine tr_aload_n dX12_readTurner_123 hl0 ?_
  refine tr_ldcwS dX12_readTurner_124 ld12_325 ?_
  refine q_iconst dX12_readTurner_127 (by decide) ?_
  intro v11 h12
  refine q_bipush dX12_readTurner_128 (by decide +kernel) ?_
  intro v13 h14
  refine q_callVi hE (M' := mX12_readPart) (as := [_, _, _]) dX12_readTurner_130 lk12_249 inX12_readPart seX12_readPart myX12_readPart (by decide) ⟨by decide, by decide⟩ rfl (kR15 hS0.1 ta0) (Nat.le_of_ble_eq_true rfl) rfl rfl (by decide) (by decide) (k_X12_readPart hS0.1 ta0 (by decide)) ?_
  rintro v19 cn' K' N' I15 R16 L17 ⟨rfl, rfl, rfl, rfl, g18, p20, w21, -⟩
  have hS22 := hS0.tr g18 (by decide +kernel) (by decide +kernel)
  have b23 : 1 ≤ v19.toInt ∧ v19.toInt ≤ 8 := by exact om_796bcfe4 h12 h14 p20
  clear p20
  have ov24 := w21.over (by rw [c4]; exact om_394b70a2 p6)
  obtain ⟨v25, c26⟩ : ∃ v, I15 a0 9 = v := ⟨_, rfl⟩
  have b27 := iv15_9 hS22.1 ta0 c26
  obtain ⟨v28, c29⟩ : ∃ v, I15 a0 13 = v := ⟨_, rfl⟩
  obtain ⟨v30, c31⟩ : ∃ v, I15 a0 14 = v := ⟨_, rfl⟩
  (try rw [c26] at ov24)
  (try rw [c29] at ov24)
  (try rw [c31] at ov24)
  (try rw [c4] at ov24)
  (try rw [c8] at ov24)
  (try rw [c10] at ov24)
  refine tr_istore dX12_readTurner_133 (by decide) (by decide) ?_
  refine sf_oT135 hE hZ hS22.1 (gB) ta0 (by (try rw [c26]); first | done | with_reducible assumption | exact om_394b70a2 ov24.1) ⟨_, d2⟩ hl0 hl1 hl3 hl4 hl5 rfl ?_
  rintro I32 R33 L34 ⟨g35, p36, p37, p38, rp39, -⟩
  obtain rfl : R0 = R33 := funext fun a => funext fun j => (g35.2.2 a j (wm_no rfl)).symm
  have hS40 := hS22.tr g35 (by decide +kernel) (by decide +kernel)
  obtain ⟨v41, c42⟩ : ∃ v, I32 a0 9 = v := ⟨_, rfl⟩
  have b43 := iv15_9 hS40.1 ta0 c42
  rw [c42] at p36
  obtain ⟨v44, c45⟩ : ∃ v, I32 a0 13 = v := ⟨_, rfl⟩
  rw [c45] at p37
  rw [c29] at p37
  obtain ⟨v46, c47⟩ : ∃ v, I32 a0 14 = v := ⟨_, rfl⟩
  rw [c47] at p38
  rw [c31] at p38
  exact hq _ _ _ ⟨hS40, (by (try rw [c42]); first | done | with_reducible assumption | omega), (by (try rw [c45]); (try rw [c8]); first | done | with_reducible assumption | exact om_9fa72578 ov24.2.1 p37), (by (try rw [c47]); (try rw [c10]); first | done | with_reducible assumption | exact om_9fa72578 ov24.2.2 p38), (fun b hb => (Option.some.inj (d2.symm.trans hb)) ▸ (((FrM.rf (R := R0) (b := a1) (T := T)).st g18 (by decide +kernel)).st g35 (by decide +kernel))), trivial⟩
def wif_oT103 : List Nat := [968, 969, 970, 971, 972, 973, 974]
def wrf_oT103 : List Nat := []
def wlf_oT103 : List Nat := []
set_option maxHeartbeats 4000000 in
theorem sf_oT103 {X : cz_X} (hE : cz_env X) {T : Nat → Nat} {cn : Nat} {K N : Nat → Nat} {I0 : cz_I} {R0 : cz_R} {L0 : cz_L} {Q : cz_Q} (hZ : cz_Z X mX12_readTurner Q) (hW0 : Wf T cn K N I0 R0 0) (gB : cz_B) {a0 : Nat} (ta0 : T a0 = 15) {y1 : Int64} {x2 : Int32} {x3 : Int32} (pre0 : (I0 a0 9).toInt = 5) (nn4 : ∃ b, R0 a0 4 = some b) {ls : Nat → Option Value} (hl0 : ls 0 = some (.ref a0)) (hl1 : ls 1 = some (.long y1)) (hl3 : ls 3 = some (.int x2)) (hl4 : ls 4 = some (.int x3)) (hq : ∀ (I' : cz_I) (R' : cz_R) (L' : cz_L), St T cn K N 0 wif_oT103 wrf_oT103 I0 R0 I' R' ∧ ((I' a0 9).toInt = 5) ∧ ((I' a0 13).toInt = (I0 a0 13).toInt) ∧ ((I' a0 14).toInt = (I0 a0 14).toInt) ∧ (∀ b, R0 a0 4 = some b → FrM R0 b T I0 I') ∧ True → Q none cn K N I' R' L') : Tr X mX12_readTurner 103 ls [] cn K N I0 R0 L0 0 0 := by
  have hS0 : St T cn K N 0 wif_oT103 wrf_oT103 I0 R0 I0 R0 := St.rf0 hW0
  have hL0 : LgS T wlf_oT103 L0 L0 := LgS.rf0
  obtain ⟨a1, d2⟩ := nn4
  have ta1 : T a1 = 14 := hW0.rsN ta0 rfl d2
  obtain ⟨v3, c4⟩ : ∃ v, I0 a0 9 = v := ⟨_, rfl⟩
  have b5 := iv15_9 hS0.1 ta0 c4
  have p6 := pre0
  rw [c4] at p6
  obtain ⟨v7, c8⟩ : ∃ v, I0 a0 13 = v := ⟨_, rfl⟩
  obtain ⟨v9, c10⟩ : ∃ v, I0 a0 14 = v := ⟨_, rfl⟩
  refine tr_aload_n dX12_readTurner_103 hl0 ?_
  refine tr_ldcwS dX12_readTurner_104 ld12_272 ?_
  refine tr_iload dX12_readTurner_107 hl4 ?_
  refine q_iconst dX12_readTurner_109 (by decide) ?_
  intro v11 h12
  refine q_iadd dX12_readTurner_110 ?_
  intro v13
  refine tr_aload_n dX12_readTurner_111 hl0 ?_
  refine tr_getR dX12_readTurner_112 fl12_188 (kR15 hS0.1 ta0) d2 ?_
  obtain ⟨v14, c15⟩ : ∃ v, I0 a1 0 = v := ⟨_, rfl⟩
  have b16 := iv14_0 hW0 ta1 c15
  refine q_getI dX12_readTurner_115 fl12_192 (kR14 hS0.1 ta1) c15 ?_
  refine q_callVi hE (M' := mX12_readPart) (as := [_, _, _]) dX12_readTurner_118 lk12_249 inX12_readPart seX12_readPart myX12_readPart (by decide) ⟨by decide, by decide⟩ rfl (kR15 hS0.1 ta0) (Nat.le_of_ble_eq_true rfl) rfl rfl (by decide) (by decide) (k_X12_readPart hS0.1 ta0 (by decide)) ?_
  rintro v21 cn' K' N' I17 R18 L19 ⟨rfl, rfl, rfl, rfl, g20, p22, w23, -⟩
  have hS24 := hS0.tr g20 (by decide +kernel) (by decide +kernel)
  have ov25 := w23.over (by rw [c4]; exact om_394b70a2 p6)
  obtain ⟨v26, c27⟩ : ∃ v, I17 a0 9 = v := ⟨_, rfl⟩
  have b28 := iv15_9 hS24.1 ta0 c27
  obtain ⟨v29, c30⟩ : ∃ v, I17 a0 13 = v := ⟨_, rfl⟩
  obtain ⟨v31, c32⟩ : ∃ v, I17 a0 14 = v := ⟨_, rfl⟩
  (try rw [c27] at ov25)
  (try rw [c30] at ov25)
  (try rw [c32] at ov25)
  (try rw [c4] at ov25)
  (try rw [c8] at ov25)
  (try rw [c10] at ov25)
  refine tr_istore dX12_readTurner_121 (by decide) (by decide) ?_
  refine sf_oT123 hE hZ hS24.1 (gB) ta0 (by (try rw [c27]); first | done | with_reducible assumption | exact om_394b70a2 ov25.1) ⟨_, d2⟩ hl0 hl1 hl3 hl4 rfl ?_
  rintro I33 R34 L35 ⟨g36, p37, p38, p39, rp40, -⟩
  obtain rfl : R0 = R34 := funext fun a => funext fun j => (g36.2.2 a j (wm_no rfl)).symm
  have hS41 := hS24.tr g36 (by decide +kernel) (by decide +kernel)
  obtain ⟨v42, c43⟩ : ∃ v, I33 a0 9 = v := ⟨_, rfl⟩
  have b44 := iv15_9 hS41.1 ta0 c43
  rw [c43] at p37
  obtain ⟨v45, c46⟩ : ∃ v, I33 a0 13 = v := ⟨_, rfl⟩
  rw [c46] at p38
  rw [c30] at p38
  obtain ⟨v47, c48⟩ : ∃ v, I33 a0 14 = v := ⟨_, rfl⟩
  rw [c48] at p39
  rw [c32] at p39
  exact hq _ _ _ ⟨hS41, (by (try rw [c43]); first | done | with_reducible assumption | omega), (by (try rw [c46]); (try rw [c8]); first | done | with_reducible assumption | exact om_9fa72578 ov25.2.1 p38), (by (try rw [c48]); (try rw [c10]); first | done | with_reducible assumption | exact om_9fa72578 ov25.2.2 p39), (fun b hb => (Option.some.inj (d2.symm.trans hb)) ▸ (((FrM.rf (R := R0) (b := a1) (T := T)).st g20 (by decide +kernel)).st g36 (by decide +kernel))), trivial⟩
def wif_tuO : List Nat := [968, 969, 970, 971, 972, 973, 974]
def wrf_tuO : List Nat := []
def wlf_tuO : List Nat := []
set_option maxHeartbeats 4000000 in
theorem sf_tuO {X : cz_X} (hE : cz_env X) {T : Nat → Nat} {cn : Nat} {K N : Nat → Nat} {I0 : cz_I} {R0 : cz_R} {L0 : cz_L} {Q : cz_Q} (hZ : cz_Z X mX12_readTurner Q) (hW0 : Wf T cn K N I0 R0 0) (gB : cz_B) {a0 : Nat} (ta0 : T a0 = 15) {y1 : Int64} {x2 : Int32} (pre0 : (I0 a0 9).toInt = 5) (nn4 : ∃ b, R0 a0 4 = some b) {ls : Nat → Option Value} (hl0 : ls 0 = some (.ref a0)) (hl1 : ls 1 = some (.long y1)) (hl3 : ls 3 = some (.int x2)) (hq : ∀ (I' : cz_I) (R' : cz_R) (L' : cz_L), St T cn K N 0 wif_tuO wrf_tuO I0 R0 I' R' ∧ ((I' a0 9).toInt = 5) ∧ ((I' a0 13).toInt = (I0 a0 13).toInt) ∧ ((I' a0 14).toInt = (I0 a0 14).toInt) ∧ True → Q none cn K N I' R' L') : Tr X mX12_readTurner 84 ls [] cn K N I0 R0 L0 0 0 := by
  have hS0 : St T cn K N 0 wif_tuO wrf_tuO I0 R0 I0 R0 := St.rf0 hW0
  have hL0 : LgS T wlf_tuO L0 L0 := LgS.rf0
  obtain ⟨a1, d2⟩ := nn4
  have ta1 : T a1 = 14 := hW0.rsN ta0 rfl d2
  obtain ⟨v3, c4⟩ : ∃ v, I0 a0 9 = v := ⟨_, rfl⟩
  have b5 := iv15_9 hS0.1 ta0 c4
  have p6 := pre0
  rw [c4] at p6
  obtain ⟨v7, c8⟩ : ∃ v, I0 a0 13 = v := ⟨_, rfl⟩
  obtain ⟨v9, c10⟩ : ∃ v, I0 a0 14 = v := ⟨_, rfl⟩
  refine tr_aload_n dX12_readTurner_84 hl0 ?_
  refine tr_ldcwS dX12_readTurner_85 ld12_324 ?_
  refine q_iconst dX12_readTurner_88 (by decide) ?_
  intro v11 h12
  refine tr_aload_n dX12_readTurner_89 hl0 ?_
  refine tr_getR dX12_readTurner_90 fl12_188 (kR15 hS0.1 ta0) d2 ?_
  obtain ⟨v13, c14⟩ : ∃ v, I0 a1 0 = v := ⟨_, rfl⟩
  have b15 := iv14_0 hW0 ta1 c14
  refine q_getI dX12_readTurner_93 fl12_192 (kR14 hS0.1 ta1) c14 ?_
  refine q_iconst dX12_readTurner_96 (by decide) ?_
  intro v16 h17
  refine q_isubE dX12_readTurner_97 (by intro j1 j2 j3 j4; exact om_c6626f59 b15.2 b15.1 h17) ?_
  intro v18 h19
  refine q_callVi hE (M' := mX12_readPart) (as := [_, _, _]) dX12_readTurner_98 lk12_249 inX12_readPart seX12_readPart myX12_readPart (by decide) ⟨by decide, by decide⟩ rfl (kR15 hS0.1 ta0) (Nat.le_of_ble_eq_true rfl) rfl rfl (by decide) (by decide) (k_X12_readPart hS0.1 ta0 (by decide)) ?_
  rintro v24 cn' K' N' I20 R21 L22 ⟨rfl, rfl, rfl, rfl, g23, p25, w26, -⟩
  have hS27 := hS0.tr g23 (by decide +kernel) (by decide +kernel)
  have b28 : 0 ≤ v24.toInt ∧ v24.toInt ≤ 239 := by exact om_62c0eb21 h12 b15.2 b15.1 h17 h19 p25
  clear p25
  have ov29 := w26.over (by rw [c4]; exact om_394b70a2 p6)
  obtain ⟨v30, c31⟩ : ∃ v, I20 a0 9 = v := ⟨_, rfl⟩
  have b32 := iv15_9 hS27.1 ta0 c31
  obtain ⟨v33, c34⟩ : ∃ v, I20 a0 13 = v := ⟨_, rfl⟩
  obtain ⟨v35, c36⟩ : ∃ v, I20 a0 14 = v := ⟨_, rfl⟩
  (try rw [c31] at ov29)
  (try rw [c34] at ov29)
  (try rw [c36] at ov29)
  (try rw [c4] at ov29)
  (try rw [c8] at ov29)
  (try rw [c10] at ov29)
  refine tr_istore dX12_readTurner_101 (by decide) (by decide) ?_
  refine sf_oT103 hE hZ hS27.1 (gB) ta0 (by (try rw [c31]); first | done | with_reducible assumption | exact om_394b70a2 ov29.1) ⟨_, d2⟩ hl0 hl1 hl3 rfl ?_
  rintro I37 R38 L39 ⟨g40, p41, p42, p43, rp44, -⟩
  obtain rfl : R0 = R38 := funext fun a => funext fun j => (g40.2.2 a j (wm_no rfl)).symm
  have hS45 := hS27.tr g40 (by decide +kernel) (by decide +kernel)
  obtain ⟨v46, c47⟩ : ∃ v, I37 a0 9 = v := ⟨_, rfl⟩
  have b48 := iv15_9 hS45.1 ta0 c47
  rw [c47] at p41
  obtain ⟨v49, c50⟩ : ∃ v, I37 a0 13 = v := ⟨_, rfl⟩
  rw [c50] at p42
  rw [c34] at p42
  obtain ⟨v51, c52⟩ : ∃ v, I37 a0 14 = v := ⟨_, rfl⟩
  rw [c52] at p43
  rw [c36] at p43
  exact hq _ _ _ ⟨hS45, (by (try rw [c47]); first | done | with_reducible assumption | omega), (by (try rw [c50]); (try rw [c8]); first | done | with_reducible assumption | exact om_9fa72578 ov29.2.1 p42), (by (try rw [c52]); (try rw [c10]); first | done | with_reducible assumption | exact om_9fa72578 ov29.2.2 p43), trivial⟩
def wif_tuL : List Nat := [900, 903, 968, 969, 970, 971, 972, 973, 974, 4095, 4159, 4223, 4287, 4351, 4415, 4799, 4863]
def wrf_tuL : List Nat := []
def wlf_tuL : List Nat := [975, 4735]
set_option maxHeartbeats 4000000 in
theorem sf_tuL {X : cz_X} (hE : cz_env X) {T : Nat → Nat} {cn : Nat} {K N : Nat → Nat} {I0 : cz_I} {R0 : cz_R} {L0 : cz_L} {Q : cz_Q} (hZ : cz_Z X mX12_readTurner Q) (hW0 : Wf T cn K N I0 R0 0) (gB : cz_B) (gs : Int) (gQ : Nat → Int) {a0 : Nat} (ta0 : T a0 = 15) {y1 : Int64} {x2 : Int32} (hx2 : 0 ≤ x2.toInt ∧ x2.toInt ≤ 3) (hT : ∀ t, R0 a0 5 = some t → Tx I0 t gB) (hN : ∀ b, R0 a0 4 = some b → NmM I0 R0 L0 b gQ) (pre0 : (I0 a0 9).toInt = (tkM gB (tkN gB (tkN gB (tkN gB gs))))) (pre1 : (I0 a0 9).toInt ≤ 4) (pre2 : (I0 a0 10).toInt = (tkS gB (tkN gB (tkN gB (tkN gB gs))))) (pre3 : (I0 a0 11).toInt = (tkG gB (tkN gB (tkN gB (tkN gB gs))))) (pre4 : (AtW ((tkK gB (tkN gB (tkN gB (tkN gB gs))))) ((L0 a0 15).toInt) ((tkW gB (tkN gB (tkN gB (tkN gB gs))))))) (pre5 : (AtV ((tkK gB (tkN gB (tkN gB (tkN gB gs))))) ((I0 a0 12).toInt) ((tkV gB (tkN gB (tkN gB (tkN gB gs))))))) (pre6 : (AtN ((tkK gB (tkN gB (tkN gB (tkN gB gs))))) ((I0 a0 8).toInt) ((tkN gB (tkN gB (tkN gB (tkN gB gs))))))) (pre7 : (I0 a0 7).toInt = (gB.2)) (pre8 : ∀ b1, R0 a0 4 = some b1 → (I0 b1 0).toInt = (gQ 0)) (pre9 : ∀ b1, R0 a0 4 = some b1 → (I0 b1 1).toInt = (gQ 1)) (pre10 : ∀ b1, R0 a0 4 = some b1 → (I0 b1 2).toInt = (gQ 2)) (pre11 : ∀ b1, R0 a0 4 = some b1 → (I0 b1 3).toInt = (gQ 3)) (pre12 : ∀ b1, R0 a0 4 = some b1 → (I0 b1 4).toInt = (gQ 4)) (pre13 : ∀ b1, R0 a0 4 = some b1 → (I0 b1 5).toInt = (gQ 5)) (pre14 : ∀ b1, R0 a0 4 = some b1 → (I0 b1 6).toInt = (gQ 6)) (pre15 : ∀ b1, R0 a0 4 = some b1 → (I0 b1 9).toInt = (gQ 8)) (pre16 : (Q7M ((gQ 0)) ((gQ 7)))) (pre17 : (tkK gB gs) = 1) (pre18 : (srt gB gs) = 7) (pre19 : (gQ 4) ≤ 4) (pre20 : (gQ 0) ≠ 0) (pre21 : (isN gB (tkN gB gs)) = 1) (pre22 : (nmI gQ 100 (gQ 3) (tkW gB (tkN gB gs))) = -1) (pre23 : (nmI gQ 200 (gQ 4) (tkW gB (tkN gB gs))) = -1) (pre24 : y1.toInt = (tkW gB (tkN gB gs))) (pre25 : (tkd gB (tkN gB (tkN gB gs))) = x2.toInt) (nn4 : ∃ b, R0 a0 4 = some b) {ls : Nat → Option Value} (hl0 : ls 0 = some (.ref a0)) (hl1 : ls 1 = some (.long y1)) (hl3 : ls 3 = some (.int x2)) (hq : ∀ (I' : cz_I) (R' : cz_R) (L' : cz_L), St T cn K N 0 wif_tuL wrf_tuL I0 R0 I' R' ∧ (∀ b, R0 a0 4 = some b → FrM R0 b T I0 I') ∧ (∀ dr, R0 a0 4 = some dr → FrO 14 dr T I0 I') ∧ ((((lnF gB gQ gs) = 0) ∧ (∀ b1, R' a0 4 = some b1 → (I' b1 0).toInt = (lnQ gB gQ gs 0)) ∧ (∀ b1, R' a0 4 = some b1 → (I' b1 1).toInt = (lnQ gB gQ gs 1)) ∧ (∀ b1, R' a0 4 = some b1 → (I' b1 2).toInt = (lnQ gB gQ gs 2)) ∧ (∀ b1, R' a0 4 = some b1 → (I' b1 3).toInt = (lnQ gB gQ gs 3)) ∧ (∀ b1, R' a0 4 = some b1 → (I' b1 4).toInt = (lnQ gB gQ gs 4)) ∧ (∀ b1, R' a0 4 = some b1 → (I' b1 5).toInt = (lnQ gB gQ gs 5)) ∧ (∀ b1, R' a0 4 = some b1 → (I' b1 6).toInt = (lnQ gB gQ gs 6)) ∧ (∀ b1, R' a0 4 = some b1 → (I' b1 9).toInt = (lnQ gB gQ gs 8)) ∧ ((I' a0 13).toInt = (I0 a0 13).toInt) ∧ ((I' a0 9).toInt = (tkM gB (lnS gB gQ gs))) ∧ ((I' a0 9).toInt ≤ 4) ∧ ((I' a0 10).toInt = (tkS gB (lnS gB gQ gs))) ∧ ((I' a0 11).toInt = (tkG gB (lnS gB gQ gs))) ∧ ((AtW ((tkK gB (lnS gB gQ gs))) ((L' a0 15).toInt) ((tkW gB (lnS gB gQ gs))))) ∧ ((AtV ((tkK gB (lnS gB gQ gs))) ((I' a0 12).toInt) ((tkV gB (lnS gB gQ gs))))) ∧ ((AtN ((tkK gB (lnS gB gQ gs))) ((I' a0 8).toInt) ((tkN gB (lnS gB gQ gs))))) ∧ LgS T wlf_tuL L0 L' ∧ (∀ b, R0 a0 4 = some b → NmM I' R' L' b (lnQ gB gQ gs)) ∧ (∀ E b, R0 a0 4 = some b → AlM I0 R0 b gQ E → AlM I' R' b (lnQ gB gQ gs) (lnE gB gQ gs E)) ∧ True) ∨ (((lnF gB gQ gs) ≠ 0) ∧ ((I' a0 9).toInt = 5) ∧ ((I' a0 13).toInt = (lnF gB gQ gs)) ∧ ((I' a0 14).toInt = (lnP gB gQ gs)) ∧ True)) ∧ True → Q none cn K N I' R' L') : Tr X mX12_readTurner 84 ls [] cn K N I0 R0 L0 0 0 := by
  have hS0 : St T cn K N 0 wif_tuL wrf_tuL I0 R0 I0 R0 := St.rf0 hW0
  have hL0 : LgS T wlf_tuL L0 L0 := LgS.rf0
  obtain ⟨a1, d2⟩ := nn4
  have ta1 : T a1 = 14 := hW0.rsN ta0 rfl d2
  obtain ⟨v3, c4⟩ : ∃ v, I0 a0 9 = v := ⟨_, rfl⟩
  have b5 := iv15_9 hS0.1 ta0 c4
  have p6 := pre0
  rw [c4] at p6
  have p7 := pre1
  rw [c4] at p7
  obtain ⟨v8, c9⟩ : ∃ v, I0 a0 10 = v := ⟨_, rfl⟩
  have b10 := iv15_10 hS0.1 ta0 c9
  have p11 := pre2
  rw [c9] at p11
  obtain ⟨v12, c13⟩ : ∃ v, I0 a0 11 = v := ⟨_, rfl⟩
  have p14 := pre3
  rw [c13] at p14
  obtain ⟨y15, c16⟩ : ∃ v, L0 a0 15 = v := ⟨_, rfl⟩
  have p17 := pre4
  rw [c16] at p17
  obtain ⟨v18, c19⟩ : ∃ v, I0 a0 12 = v := ⟨_, rfl⟩
  have p20 := pre5
  rw [c19] at p20
  obtain ⟨v21, c22⟩ : ∃ v, I0 a0 8 = v := ⟨_, rfl⟩
  have b23 := iv15_8 hS0.1 ta0 c22
  have p24 := pre6
  rw [c22] at p24
  obtain ⟨v25, c26⟩ : ∃ v, I0 a0 7 = v := ⟨_, rfl⟩
  have b27 := iv15_7 hW0 ta0 c26
  have p28 := pre7
  rw [c26] at p28
  obtain ⟨v29, c30⟩ : ∃ v, I0 a1 0 = v := ⟨_, rfl⟩
  have b31 := iv14_0 hW0 ta1 c30
  have p32 := pre8 _ d2
  rw [c30] at p32
  obtain ⟨v33, c34⟩ : ∃ v, I0 a1 1 = v := ⟨_, rfl⟩
  have b35 := iv14_1 hW0 ta1 c34
  have p36 := pre9 _ d2
  rw [c34] at p36
  obtain ⟨v37, c38⟩ : ∃ v, I0 a1 2 = v := ⟨_, rfl⟩
  have b39 := iv14_2 hW0 ta1 c38
  have p40 := pre10 _ d2
  rw [c38] at p40
  obtain ⟨v41, c42⟩ : ∃ v, I0 a1 3 = v := ⟨_, rfl⟩
  have b43 := iv14_3 hW0 ta1 c42
  have p44 := pre11 _ d2
  rw [c42] at p44
  obtain ⟨v45, c46⟩ : ∃ v, I0 a1 4 = v := ⟨_, rfl⟩
  have b47 := iv14_4 hS0.1 ta1 c46
  have p48 := pre12 _ d2
  rw [c46] at p48
  obtain ⟨v49, c50⟩ : ∃ v, I0 a1 5 = v := ⟨_, rfl⟩
  have b51 := iv14_5 hW0 ta1 c50
  have p52 := pre13 _ d2
  rw [c50] at p52
  obtain ⟨v53, c54⟩ : ∃ v, I0 a1 6 = v := ⟨_, rfl⟩
  have b55 := iv14_6 hW0 ta1 c54
  have p56 := pre14 _ d2
  rw [c54] at p56
  obtain ⟨v57, c58⟩ : ∃ v, I0 a1 9 = v := ⟨_, rfl⟩
  have b59 := iv14_9 hW0 ta1 c58
  have p60 := pre15 _ d2
  rw [c58] at p60
  have p61 := pre16
  have p62 := pre17
  have p63 := pre18
  have p64 := pre19
  have p65 := pre20
  have p66 := pre21
  have p67 := pre22
  have p68 := pre23
  have p69 := pre24
  have p70 := pre25
  obtain ⟨v71, c72⟩ : ∃ v, I0 a0 13 = v := ⟨_, rfl⟩
  have hM0 := hN _ d2
  have hO0 : FrO 14 a1 T I0 I0 := FrO.rf
  have hF := lnF_ch gB gQ gs
  have hP := lnP_ch gB gQ gs
  have p73 := p61
  unfold Q7M at p73
  replace hF := hF.neg (by exact om_b2533929 pre18)
  replace hP := hP.neg (by exact om_b2533929 pre18)
  replace hF := hF.neg (by exact om_b8b780f2 pre18)
  replace hP := hP.neg (by exact om_b8b780f2 pre18)
  replace hF := hF.neg (by exact om_9e92cd86 pre18 pre19 b47.2 b47.1 p48)
  replace hP := hP.neg (by exact om_9e92cd86 pre18 pre19 b47.2 b47.1 p48)
  replace hF := hF.neg (by exact om_c3d236a5 pre18 p65 p73)
  replace hP := hP.neg (by exact om_c3d236a5 pre18 p65 p73)
  clear p73
  obtain ⟨w74, w75, w76, w77, w78, w79, w80, w81, w82, w83, w84, w85⟩ := lnl_7 (B := gB) (Q := gQ) (s := gs) (by exact om_58805a6b p63)
  replace hF := hF.to w74 (tuF_cx gB gQ (tkN gB gs))
  replace hP := hP.to w75 (tuP_cx gB gQ (tkN gB gs))
  have kdx : tkd gB (tkN gB (tkN gB gs)) = x2.toInt := by exact om_acd7a85a p70
  replace hF := hF.neg (by exact om_e4d065d5 pre21)
  replace hP := hP.neg (by exact om_e4d065d5 pre21)
  replace hF := hF.neg (by exact om_e6f60cd2 pre22 pre23)
  replace hP := hP.neg (by exact om_e6f60cd2 pre22 pre23)
  replace hF := hF.neg (by exact om_7d0c0479 hx2.2 hx2.1 pre25)
  replace hP := hP.neg (by exact om_7d0c0479 hx2.2 hx2.1 pre25)
  refine tr_aload_n dX12_readTurner_84 hl0 ?_
  refine tr_ldcwS dX12_readTurner_85 ld12_324 ?_
  refine q_iconst dX12_readTurner_88 (by decide) ?_
  intro v86 h87
  refine tr_aload_n dX12_readTurner_89 hl0 ?_
  refine tr_getR dX12_readTurner_90 fl12_188 (kR15 hS0.1 ta0) d2 ?_
  refine q_getI dX12_readTurner_93 fl12_192 (kR14 hS0.1 ta1) c30 ?_
  refine q_iconst dX12_readTurner_96 (by decide) ?_
  intro v88 h89
  refine q_isubE dX12_readTurner_97 (by intro j1 j2 j3 j4; exact om_6479810f b31.2 b31.1 p32 w77 h89) ?_
  intro v90 h91
  refine q_callVi hE (M' := mX12_readPart) (as := [_, _, _]) dX12_readTurner_98 lk12_249 inX12_readPart seX12_readPart myX12_readPart (by decide) ⟨by decide, by decide⟩ rfl (kR15 hS0.1 ta0) (Nat.le_of_ble_eq_true rfl) rfl rfl (by decide) (by decide) (fk_X12_readPart hS0.1 (gB) ((tkN gB (tkN gB (tkN gB gs)))) ta0 (by decide) (TxA.kp hT hS0 ta0 rfl rfl rfl (by decide +kernel) (by decide +kernel)) (by (try rw [c4]); first | done | with_reducible assumption | omega) (by (try rw [c4]); first | done | with_reducible assumption | omega) (by (try rw [c9]); first | done | with_reducible assumption | omega) (by (try rw [c13]); first | done | with_reducible assumption | omega) (by (try rw [c16]); first | done | assumption) (by (try rw [c19]); first | done | assumption) (by (try rw [c22]); first | done | assumption) (by (try rw [c26]); first | done | with_reducible assumption | omega)) ?_
  rintro v97 cn' K' N' I92 R93 L94 ⟨rfl, rfl, rfl, rfl, g95, dj98, -⟩
  (try rw [pk_13] at dj98)
  have hM99 : NmM I92 R0 L0 a1 gQ := NmM.kpS hM0 g95 hS0.1 ta1 (by decide +kernel) (by decide +kernel)
  have hS100 := hS0.tr g95 (by decide +kernel) (by decide +kernel)
  have c101 : I92 a1 4 = v45 := (g95.cell ta1 (by decide +kernel)).trans c46
  have hO102 : FrO 14 a1 T I0 I92 := hO0.st g95 (by decide +kernel)
  rcases dj98 with ⟨p103, p104, p105, p106, p107, p108, p109, p110, p111, p112, p113, p114, p115, p116, gl117, -⟩ | ⟨p118, p119, p120, p121, p122, -⟩ | ⟨p123, p124, p125, p126, p127, p128, p129, -⟩ | ⟨p130, p131, p132, p133, p134, p135, p136, p137, -⟩
  · skip
    have hL138 := hL0.tr gl117 (by decide +kernel)
    have hM139 : NmM I92 R0 L94 a1 gQ := NmM.kpL hM99 gl117 hS100.1 ta1 (by decide +kernel)
    obtain ⟨v140, c141⟩ : ∃ v, I92 a0 13 = v := ⟨_, rfl⟩
    rw [c141] at p109
    rw [c72] at p109
    obtain ⟨v142, c143⟩ : ∃ v, I92 a0 9 = v := ⟨_, rfl⟩
    have b144 := iv15_9 hS100.1 ta0 c143
    rw [c143] at p110
    rw [c143] at p111
    obtain ⟨v145, c146⟩ : ∃ v, I92 a0 10 = v := ⟨_, rfl⟩
    have b147 := iv15_10 hS100.1 ta0 c146
    rw [c146] at p112
    obtain ⟨v148, c149⟩ : ∃ v, I92 a0 11 = v := ⟨_, rfl⟩
    rw [c149] at p113
    obtain ⟨y150, c151⟩ : ∃ v, L94 a0 15 = v := ⟨_, rfl⟩
    rw [c151] at p114
    obtain ⟨v152, c153⟩ : ∃ v, I92 a0 12 = v := ⟨_, rfl⟩
    rw [c153] at p115
    obtain ⟨v154, c155⟩ : ∃ v, I92 a0 8 = v := ⟨_, rfl⟩
    have b156 := iv15_8 hS100.1 ta0 c155
    rw [c155] at p116
    replace hF := hF.neg (by exact om_58a59c28 p104 p105)
    replace hP := hP.neg (by exact om_58a59c28 p104 p105)
    replace hF := hF.neg (by exact om_10ed11b5 p106)
    replace hP := hP.neg (by exact om_10ed11b5 p106)
    replace hF := hF.neg (by exact om_4062d996 p32 w77 h87 h89 h91 p107 p108)
    replace hP := hP.neg (by exact om_4062d996 p32 w77 h87 h89 h91 p107 p108)
    refine tr_istore dX12_readTurner_101 (by decide) (by decide) ?_
    refine tr_aload_n dX12_readTurner_103 hl0 ?_
    refine tr_ldcwS dX12_readTurner_104 ld12_272 ?_
    refine tr_iload dX12_readTurner_107 rfl ?_
    refine q_iconst dX12_readTurner_109 (by decide) ?_
    intro v157 h158
    refine q_iaddE dX12_readTurner_110 (by intro j1 j2 j3 j4; exact om_5e7b6990 b31.2 b31.1 p32 w77 h87 h89 h91 p103 p107 p108 h158 j2) ?_
    intro v159 h160
    refine tr_aload_n dX12_readTurner_111 hl0 ?_
    refine tr_getR dX12_readTurner_112 fl12_188 (kR15 hS100.1 ta0) d2 ?_
    refine q_getI dX12_readTurner_115 fl12_192 (kR14 hS100.1 ta1) ((hS100.cell ta1 (by decide +kernel)).trans c30) ?_
    refine q_callVi hE (M' := mX12_readPart) (as := [_, _, _]) dX12_readTurner_118 lk12_249 inX12_readPart seX12_readPart myX12_readPart (by decide) ⟨by decide, by decide⟩ rfl (kR15 hS100.1 ta0) (Nat.le_of_ble_eq_true rfl) rfl rfl (by decide) (by decide) (fk_X12_readPart hS100.1 (gB) ((tkN gB (tkN gB (tkN gB (tkN gB (tkN gB gs)))))) ta0 (by decide) (TxA.kp hT hS100 ta0 rfl rfl rfl (by decide +kernel) (by decide +kernel)) (by (try rw [c143]); first | done | with_reducible assumption | omega) (by (try rw [c143]); first | done | with_reducible assumption | omega) (by (try rw [c146]); first | done | with_reducible assumption | omega) (by (try rw [c149]); first | done | with_reducible assumption | omega) (by (try rw [c151]); first | done | assumption) (by (try rw [c153]); first | done | assumption) (by (try rw [c155]); first | done | assumption) (by (try rw [((hS100.cell ta0 (by decide +kernel)).trans c26)]); first | done | with_reducible assumption | omega)) ?_
    rintro v166 cn' K' N' I161 R162 L163 ⟨rfl, rfl, rfl, rfl, g164, dj167, -⟩
    (try rw [pk_25] at dj167)
    have hM168 : NmM I161 R0 L94 a1 gQ := NmM.kpS hM139 g164 hS100.1 ta1 (by decide +kernel) (by decide +kernel)
    have hS169 := hS100.tr g164 (by decide +kernel) (by decide +kernel)
    have c170 : I161 a1 4 = v45 := (g164.cell ta1 (by decide +kernel)).trans c101
    have hO171 : FrO 14 a1 T I0 I161 := hO102.st g164 (by decide +kernel)
    rcases dj167 with ⟨p172, p173, p174, p175, p176, p177, p178, p179, p180, p181, p182, p183, p184, p185, gl186, -⟩ | ⟨p187, p188, p189, p190, p191, -⟩ | ⟨p192, p193, p194, p195, p196, p197, p198, -⟩ | ⟨p199, p200, p201, p202, p203, p204, p205, p206, -⟩
    · skip
      have hL207 := hL138.tr gl186 (by decide +kernel)
      have hM208 : NmM I161 R0 L163 a1 gQ := NmM.kpL hM168 gl186 hS169.1 ta1 (by decide +kernel)
      obtain ⟨v209, c210⟩ : ∃ v, I161 a0 13 = v := ⟨_, rfl⟩
      rw [c210] at p178
      rw [c141] at p178
      obtain ⟨v211, c212⟩ : ∃ v, I161 a0 9 = v := ⟨_, rfl⟩
      have b213 := iv15_9 hS169.1 ta0 c212
      rw [c212] at p179
      rw [c212] at p180
      obtain ⟨v214, c215⟩ : ∃ v, I161 a0 10 = v := ⟨_, rfl⟩
      have b216 := iv15_10 hS169.1 ta0 c215
      rw [c215] at p181
      obtain ⟨v217, c218⟩ : ∃ v, I161 a0 11 = v := ⟨_, rfl⟩
      rw [c218] at p182
      obtain ⟨y219, c220⟩ : ∃ v, L163 a0 15 = v := ⟨_, rfl⟩
      rw [c220] at p183
      obtain ⟨v221, c222⟩ : ∃ v, I161 a0 12 = v := ⟨_, rfl⟩
      rw [c222] at p184
      obtain ⟨v223, c224⟩ : ∃ v, I161 a0 8 = v := ⟨_, rfl⟩
      have b225 := iv15_8 hS169.1 ta0 c224
      rw [c224] at p185
      replace hF := hF.neg (by exact om_04941ac6 p173 p174)
      replace hP := hP.neg (by exact om_04941ac6 p173 p174)
      replace hF := hF.neg (by exact om_10ed11b5 p175)
      replace hP := hP.neg (by exact om_10ed11b5 p175)
      replace hF := hF.neg (by exact om_11a1fbca p32 w77 h89 h91 p103 h158 h160 p176 p177)
      replace hP := hP.neg (by exact om_11a1fbca p32 w77 h89 h91 p103 h158 h160 p176 p177)
      refine tr_istore dX12_readTurner_121 (by decide) (by decide) ?_
      refine tr_aload_n dX12_readTurner_123 hl0 ?_
      refine tr_ldcwS dX12_readTurner_124 ld12_325 ?_
      refine q_iconst dX12_readTurner_127 (by decide) ?_
      intro v226 h227
      refine q_bipush dX12_readTurner_128 (by decide +kernel) ?_
      intro v228 h229
      refine q_callVi hE (M' := mX12_readPart) (as := [_, _, _]) dX12_readTurner_130 lk12_249 inX12_readPart seX12_readPart myX12_readPart (by decide) ⟨by decide, by decide⟩ rfl (kR15 hS169.1 ta0) (Nat.le_of_ble_eq_true rfl) rfl rfl (by decide) (by decide) (fk_X12_readPart hS169.1 (gB) ((tkN gB (tkN gB (tkN gB (tkN gB (tkN gB (tkN gB (tkN gB gs)))))))) ta0 (by decide) (TxA.kp hT hS169 ta0 rfl rfl rfl (by decide +kernel) (by decide +kernel)) (by (try rw [c212]); first | done | with_reducible assumption | omega) (by (try rw [c212]); first | done | with_reducible assumption | omega) (by (try rw [c215]); first | done | with_reducible assumption | omega) (by (try rw [c218]); first | done | with_reducible assumption | omega) (by (try rw [c220]); first | done | assumption) (by (try rw [c222]); first | done | assumption) (by (try rw [c224]); first | done | assumption) (by (try rw [((hS169.cell ta0 (by decide +kernel)).trans c26)]); first | done | with_reducible assumption | omega)) ?_
      rintro v235 cn' K' N' I230 R231 L232 ⟨rfl, rfl, rfl, rfl, g233, dj236, -⟩
      (try rw [pk_14] at dj236)
      have hM237 : NmM I230 R0 L163 a1 gQ := NmM.kpS hM208 g233 hS169.1 ta1 (by decide +kernel) (by decide +kernel)
      have hS238 := hS169.tr g233 (by decide +kernel) (by decide +kernel)
      have c239 : I230 a1 4 = v45 := (g233.cell ta1 (by decide +kernel)).trans c170
      have hO240 : FrO 14 a1 T I0 I230 := hO171.st g233 (by decide +kernel)
      rcases dj236 with ⟨p241, p242, p243, p244, p245, p246, p247, p248, p249, p250, p251, p252, p253, p254, gl255, -⟩ | ⟨p256, p257, p258, p259, p260, -⟩ | ⟨p261, p262, p263, p264, p265, p266, p267, -⟩ | ⟨p268, p269, p270, p271, p272, p273, p274, p275, -⟩
      · skip
        have hL276 := hL207.tr gl255 (by decide +kernel)
        have hM277 : NmM I230 R0 L232 a1 gQ := NmM.kpL hM237 gl255 hS238.1 ta1 (by decide +kernel)
        obtain ⟨v278, c279⟩ : ∃ v, I230 a0 13 = v := ⟨_, rfl⟩
        rw [c279] at p247
        rw [c210] at p247
        obtain ⟨v280, c281⟩ : ∃ v, I230 a0 9 = v := ⟨_, rfl⟩
        have b282 := iv15_9 hS238.1 ta0 c281
        rw [c281] at p248
        rw [c281] at p249
        obtain ⟨v283, c284⟩ : ∃ v, I230 a0 10 = v := ⟨_, rfl⟩
        have b285 := iv15_10 hS238.1 ta0 c284
        rw [c284] at p250
        obtain ⟨v286, c287⟩ : ∃ v, I230 a0 11 = v := ⟨_, rfl⟩
        rw [c287] at p251
        obtain ⟨y288, c289⟩ : ∃ v, L232 a0 15 = v := ⟨_, rfl⟩
        rw [c289] at p252
        obtain ⟨v290, c291⟩ : ∃ v, I230 a0 12 = v := ⟨_, rfl⟩
        rw [c291] at p253
        obtain ⟨v292, c293⟩ : ∃ v, I230 a0 8 = v := ⟨_, rfl⟩
        have b294 := iv15_8 hS238.1 ta0 c293
        rw [c293] at p254
        replace hF := hF.neg (by exact om_6653c81a p242 p243)
        replace hP := hP.neg (by exact om_6653c81a p242 p243)
        replace hF := hF.neg (by exact om_10ed11b5 p244)
        replace hP := hP.neg (by exact om_10ed11b5 p244)
        replace hF := hF.neg (by exact om_f00d4b50 h227 h229 p245 p246)
        replace hP := hP.neg (by exact om_f00d4b50 h227 h229 p245 p246)
        refine tr_istore dX12_readTurner_133 (by decide) (by decide) ?_
        refine tr_aload_n dX12_readTurner_135 hl0 ?_
        refine tr_ldcwS dX12_readTurner_136 ld12_327 ?_
        refine q_iconst dX12_readTurner_139 (by decide) ?_
        intro v295 h296
        refine q_bipush dX12_readTurner_140 (by decide +kernel) ?_
        intro v297 h298
        refine q_callVi hE (M' := mX12_readPart) (as := [_, _, _]) dX12_readTurner_142 lk12_249 inX12_readPart seX12_readPart myX12_readPart (by decide) ⟨by decide, by decide⟩ rfl (kR15 hS238.1 ta0) (Nat.le_of_ble_eq_true rfl) rfl rfl (by decide) (by decide) (fk_X12_readPart hS238.1 (gB) ((tkN gB (tkN gB (tkN gB (tkN gB (tkN gB (tkN gB (tkN gB (tkN gB (tkN gB gs)))))))))) ta0 (by decide) (TxA.kp hT hS238 ta0 rfl rfl rfl (by decide +kernel) (by decide +kernel)) (by (try rw [c281]); first | done | with_reducible assumption | omega) (by (try rw [c281]); first | done | with_reducible assumption | omega) (by (try rw [c284]); first | done | with_reducible assumption | omega) (by (try rw [c287]); first | done | with_reducible assumption | omega) (by (try rw [c289]); first | done | assumption) (by (try rw [c291]); first | done | assumption) (by (try rw [c293]); first | done | assumption) (by (try rw [((hS238.cell ta0 (by decide +kernel)).trans c26)]); first | done | with_reducible assumption | omega)) ?_
        rintro v304 cn' K' N' I299 R300 L301 ⟨rfl, rfl, rfl, rfl, g302, dj305, -⟩
        (try rw [pk_24] at dj305)
        have hM306 : NmM I299 R0 L232 a1 gQ := NmM.kpS hM277 g302 hS238.1 ta1 (by decide +kernel) (by decide +kernel)
        have hS307 := hS238.tr g302 (by decide +kernel) (by decide +kernel)
        have c308 : I299 a1 4 = v45 := (g302.cell ta1 (by decide +kernel)).trans c239
        have hO309 : FrO 14 a1 T I0 I299 := hO240.st g302 (by decide +kernel)
        rcases dj305 with ⟨p310, p311, p312, p313, p314, p315, p316, p317, p318, p319, p320, p321, p322, p323, gl324, -⟩ | ⟨p325, p326, p327, p328, p329, -⟩ | ⟨p330, p331, p332, p333, p334, p335, p336, -⟩ | ⟨p337, p338, p339, p340, p341, p342, p343, p344, -⟩
        · skip
          have hL345 := hL276.tr gl324 (by decide +kernel)
          have hM346 : NmM I299 R0 L301 a1 gQ := NmM.kpL hM306 gl324 hS307.1 ta1 (by decide +kernel)
          obtain ⟨v347, c348⟩ : ∃ v, I299 a0 13 = v := ⟨_, rfl⟩
          rw [c348] at p316
          rw [c279] at p316
          obtain ⟨v349, c350⟩ : ∃ v, I299 a0 9 = v := ⟨_, rfl⟩
          have b351 := iv15_9 hS307.1 ta0 c350
          rw [c350] at p317
          rw [c350] at p318
          obtain ⟨v352, c353⟩ : ∃ v, I299 a0 10 = v := ⟨_, rfl⟩
          have b354 := iv15_10 hS307.1 ta0 c353
          rw [c353] at p319
          obtain ⟨v355, c356⟩ : ∃ v, I299 a0 11 = v := ⟨_, rfl⟩
          rw [c356] at p320
          obtain ⟨y357, c358⟩ : ∃ v, L301 a0 15 = v := ⟨_, rfl⟩
          rw [c358] at p321
          obtain ⟨v359, c360⟩ : ∃ v, I299 a0 12 = v := ⟨_, rfl⟩
          rw [c360] at p322
          obtain ⟨v361, c362⟩ : ∃ v, I299 a0 8 = v := ⟨_, rfl⟩
          have b363 := iv15_8 hS307.1 ta0 c362
          rw [c362] at p323
          replace hF := hF.neg (by exact om_f8dd5453 p311 p312)
          replace hP := hP.neg (by exact om_f8dd5453 p311 p312)
          replace hF := hF.neg (by exact om_10ed11b5 p313)
          replace hP := hP.neg (by exact om_10ed11b5 p313)
          replace hF := hF.neg (by exact om_5fe05eab h296 h298 p314 p315)
          replace hP := hP.neg (by exact om_5fe05eab h296 h298 p314 p315)
          refine tr_istore dX12_readTurner_145 (by decide) (by decide) ?_
          refine tr_aload_n dX12_readTurner_147 hl0 ?_
          refine tr_ldcS dX12_readTurner_148 ld12_253 ?_
          refine q_callVv hE (M' := mX12_needs) (as := [_]) dX12_readTurner_150 lk12_157 inX12_needs seX12_needs myX12_needs (by decide) ⟨by decide, by decide⟩ rfl (kR15 hS307.1 ta0) (Nat.le_of_ble_eq_true rfl) rfl rfl (by decide) (by decide) (fk_X12_needs hS307.1 (gB) ((tkN gB (tkN gB (tkN gB (tkN gB (tkN gB (tkN gB (tkN gB (tkN gB (tkN gB (tkN gB (tkN gB gs)))))))))))) ta0 (by decide) (TxA.kp hT hS307 ta0 rfl rfl rfl (by decide +kernel) (by decide +kernel)) (by (try rw [c350]); first | done | with_reducible assumption | omega) (by (try rw [c350]); first | done | with_reducible assumption | omega) (by (try rw [c353]); first | done | with_reducible assumption | omega) (by (try rw [c356]); first | done | with_reducible assumption | omega) (by (try rw [c358]); first | done | assumption) (by (try rw [c360]); first | done | assumption) (by (try rw [c362]); first | done | assumption) (by (try rw [((hS307.cell ta0 (by decide +kernel)).trans c26)]); first | done | with_reducible assumption | omega)) ?_
          rintro cn' K' N' I364 R365 L366 ⟨rfl, rfl, rfl, rfl, g367, dj370, -⟩
          (try rw [pk_16] at dj370)
          have hM371 : NmM I364 R0 L301 a1 gQ := NmM.kpS hM346 g367 hS307.1 ta1 (by decide +kernel) (by decide +kernel)
          have hS372 := hS307.tr g367 (by decide +kernel) (by decide +kernel)
          have c373 : I364 a1 4 = v45 := (g367.cell ta1 (by decide +kernel)).trans c308
          have hO374 : FrO 14 a1 T I0 I364 := hO309.st g367 (by decide +kernel)
          rcases dj370 with ⟨p375, p376, p377, p378, p379, p380, p381, p382, p383, p384, gl385, -⟩ | ⟨p386, p387, p388, p389, -⟩
          · skip
            have hL390 := hL345.tr gl385 (by decide +kernel)
            have hM391 : NmM I364 R0 L366 a1 gQ := NmM.kpL hM371 gl385 hS372.1 ta1 (by decide +kernel)
            obtain ⟨v392, c393⟩ : ∃ v, I364 a0 13 = v := ⟨_, rfl⟩
            rw [c393] at p377
            rw [c348] at p377
            obtain ⟨v394, c395⟩ : ∃ v, I364 a0 9 = v := ⟨_, rfl⟩
            have b396 := iv15_9 hS372.1 ta0 c395
            rw [c395] at p378
            rw [c395] at p379
            obtain ⟨v397, c398⟩ : ∃ v, I364 a0 10 = v := ⟨_, rfl⟩
            have b399 := iv15_10 hS372.1 ta0 c398
            rw [c398] at p380
            obtain ⟨v400, c401⟩ : ∃ v, I364 a0 11 = v := ⟨_, rfl⟩
            rw [c401] at p381
            obtain ⟨y402, c403⟩ : ∃ v, L366 a0 15 = v := ⟨_, rfl⟩
            rw [c403] at p382
            obtain ⟨v404, c405⟩ : ∃ v, I364 a0 12 = v := ⟨_, rfl⟩
            rw [c405] at p383
            obtain ⟨v406, c407⟩ : ∃ v, I364 a0 8 = v := ⟨_, rfl⟩
            have b408 := iv15_8 hS372.1 ta0 c407
            rw [c407] at p384
            replace hF := hF.neg (by exact om_775460f3 p375 p376)
            replace hP := hP.neg (by exact om_775460f3 p375 p376)
            refine q_iconst dX12_readTurner_153 (by decide) ?_
            intro v409 h410
            refine tr_istore dX12_readTurner_154 (by decide) (by decide) ?_
            refine q_iconst dX12_readTurner_156 (by decide) ?_
            intro v411 h412
            refine tr_istore dX12_readTurner_157 (by decide) (by decide) ?_
            have lp468 : ∀ (fu : Nat) (ls : Nat → Option Value) (v413 : Int32) (v414 : Int32) (I424 : cz_I) (L425 : cz_L) (gs426 : Int) (gr427 : Nat) (gh428 : Int) (v433 : Int32) (v435 : Int32) (v437 : Int32) (v439 : Int32) (v441 : Int32) (y443 : Int64) (v445 : Int32) (v447 : Int32), ls 0 = some (.ref a0) → ls 1 = some (.long y1) → ls 3 = some (.int x2) → ls 4 = some (.int v97) → ls 5 = some (.int v166) → ls 6 = some (.int v235) → ls 7 = some (.int v304) → ls 8 = some (.int v413) → ls 9 = some (.int v414) → St T cn K N 0 wif_tuL wrf_tuL I0 R0 I424 R0 → LgS T wlf_tuL L0 L425 → NmM I424 R0 L425 a1 gQ → FrO 14 a1 T I0 I424 → I424 a0 13 = v433 → I424 a1 4 = v435 → I424 a0 9 = v437 → I424 a0 10 = v439 → I424 a0 11 = v441 → L425 a0 15 = y443 → I424 a0 12 = v445 → I424 a0 8 = v447 → (huF gB gQ gr427 gh428 gs426) = (huF gB gQ 901 0 (tkN gB (tkN gB (tkN gB (tkN gB (tkN gB (tkN gB (tkN gB (tkN gB (tkN gB (tkN gB (tkN gB (tkN gB gs))))))))))))) → (huP gB gQ gr427 gh428 gs426) = (huP gB gQ 901 0 (tkN gB (tkN gB (tkN gB (tkN gB (tkN gB (tkN gB (tkN gB (tkN gB (tkN gB (tkN gB (tkN gB (tkN gB gs))))))))))))) → (huS gB gQ gr427 gh428 gs426) = (huS gB gQ 901 0 (tkN gB (tkN gB (tkN gB (tkN gB (tkN gB (tkN gB (tkN gB (tkN gB (tkN gB (tkN gB (tkN gB (tkN gB gs))))))))))))) → (huV gB gr427 gh428 gs426) = (huV gB 901 0 (tkN gB (tkN gB (tkN gB (tkN gB (tkN gB (tkN gB (tkN gB (tkN gB (tkN gB (tkN gB (tkN gB (tkN gB gs))))))))))))) → v435.toInt = (gQ 4) → v414.toInt = 1 → v413.toInt = (gh428) → (gh428) ≥ 0 → (gh428) ≤ 15 → ((gr427 : Int)) + v439.toInt ≥ 901 → v433.toInt = v71.toInt → v437.toInt = (tkM gB gs426) → v437.toInt ≤ 4 → v439.toInt = (tkS gB gs426) → v441.toInt = (tkG gB gs426) → (AtW ((tkK gB gs426)) (y443.toInt) ((tkW gB gs426))) → (AtV ((tkK gB gs426)) (v445.toInt) ((tkV gB gs426))) → (AtN ((tkK gB gs426)) (v447.toInt) ((tkN gB gs426))) → (RoF rdm T I0 I424) → (-v439.toInt + 900).toNat < fu → Tr X mX12_readTurner 159 ls [] cn K N I424 R0 L425 0 0 := by
              intro fu
              induction fu with
              | zero => intros; rename_i hz; exact absurd hz (Nat.not_lt_zero _)
              | succ fu ih468 =>
                intro ls v413 v414 I424 L425 gs426 gr427 gh428 v433 v435 v437 v439 v441 y443 v445 v447 hl415 hl416 hl417 hl418 hl419 hl420 hl421 hl422 hl423 hS429 hL430 hM431 hO432 c434 c436 c438 c440 c442 c444 c446 c448 g449 g450 g451 g452 g453 g454 g455 g456 g457 g458 g459 g460 g461 g462 g463 g464 g465 g466 rw467 hm468
                have b470 := iv14_4 hS429.1 ta1 c436
                have b471 := iv15_9 hS429.1 ta0 c438
                have b472 := iv15_10 hS429.1 ta0 c440
                have b473 := iv15_8 hS429.1 ta0 c448
                rcases Nat.eq_zero_or_pos gr427 with hz474 | hz474
                · skip
                  subst hz474
                  exfalso; exact om_71ebda56 g462 b472.2 b472.1 g458
                · skip
                  obtain ⟨gk475, rfl⟩ : ∃ k, gr427 = k + 1 := ⟨gr427 - 1, by exact om_dc97010f hz474⟩
                  refine tr_iload dX12_readTurner_159 hl423 ?_
                  refine q_if_eq 227 dX12_readTurner_161 (by decide) (fun h476 => ?_) (fun h476 => ?_)
                  · skip
                    exfalso; exact om_3624102b g454 h476
                  · skip
                    refine tr_aload_n dX12_readTurner_164 hl415 ?_
                    refine q_getI dX12_readTurner_165 fl12_99 (kR15 hS429.1 ta0) c438 ?_
                    refine q_iconst dX12_readTurner_168 (by decide) ?_
                    intro v477 h478
                    refine q_icmp_eq 227 dX12_readTurner_169 (by decide) (fun h479 => ?_) (fun h479 => ?_)
                    · skip
                      exfalso; exact om_590814ed g460 g461 b471.1 h478 h479
                    · skip
                      refine tr_aload_n dX12_readTurner_172 hl415 ?_
                      refine q_iconst dX12_readTurner_173 (by decide) ?_
                      intro v480 h481
                      refine tr_aload_n dX12_readTurner_174 hl415 ?_
                      refine tr_getR dX12_readTurner_175 fl12_188 (kR15 hS429.1 ta0) d2 ?_
                      refine q_getI dX12_readTurner_178 fl12_263 (kR14 hS429.1 ta1) ((hS429.cell ta1 (by decide +kernel)).trans c34) ?_
                      refine q_iconst dX12_readTurner_181 (by decide) ?_
                      intro v482 h483
                      refine q_isubE dX12_readTurner_182 (by intro j1 j2 j3 j4; exact om_99c1ed93 b35.2 b35.1 p36 w78 h483) ?_
                      intro v484 h485
                      refine q_callVi hE (M' := mX12_bounded) (as := [_, _]) dX12_readTurner_183 lk12_153 inX12_bounded seX12_bounded myX12_bounded (by decide) ⟨by decide, by decide⟩ rfl (kR15 hS429.1 ta0) (Nat.le_of_ble_eq_true rfl) rfl rfl (by decide) (by decide) (fk_X12_bounded hS429.1 (gB) (gs426) ta0 (by (try rw [c438]); first | done | with_reducible assumption | omega) (by (try rw [c438]); first | done | with_reducible assumption | omega) (by (try rw [c440]); first | done | with_reducible assumption | omega) (by (try rw [c442]); first | done | with_reducible assumption | omega) (by (try rw [c444]); first | done | assumption) (by (try rw [c446]); first | done | assumption) (by (try rw [c448]); first | done | assumption)) ?_
                      rintro v491 cn' K' N' I486 R487 L488 ⟨rfl, rfl, rfl, rfl, rfl, g489, dj492, -⟩
                      have hM493 : NmM I486 R0 L425 a1 gQ := NmM.kpS hM431 g489 hS429.1 ta1 (by decide +kernel) (by decide +kernel)
                      have hS494 := hS429.tr g489 (by decide +kernel) (by decide +kernel)
                      have c495 : I486 a1 4 = v435 := (g489.cell ta1 (by decide +kernel)).trans c436
                      have c496 : I486 a0 10 = v439 := (g489.cell ta0 (by decide +kernel)).trans c440
                      have c497 : I486 a0 11 = v441 := (g489.cell ta0 (by decide +kernel)).trans c442
                      have c498 : I486 a0 12 = v445 := (g489.cell ta0 (by decide +kernel)).trans c446
                      have c499 : I486 a0 8 = v447 := (g489.cell ta0 (by decide +kernel)).trans c448
                      have hO500 : FrO 14 a1 T I0 I486 := hO432.st g489 (by decide +kernel)
                      rcases dj492 with ⟨p501, p502, p503, p504, p505, p506, p507, p508, p509, p510, p511, p512, -⟩ | ⟨p513, p514, p515, p516, p517, -⟩ | ⟨p518, p519, p520, p521, p522, p523, -⟩
                      · skip
                        obtain ⟨v524, c525⟩ : ∃ v, I486 a0 13 = v := ⟨_, rfl⟩
                        rw [c525] at p505
                        rw [c434] at p505
                        obtain ⟨v526, c527⟩ : ∃ v, I486 a0 9 = v := ⟨_, rfl⟩
                        have b528 := iv15_9 hS494.1 ta0 c527
                        rw [c527] at p506
                        rw [c527] at p507
                        rw [c496] at p508
                        rw [c497] at p509
                        rw [c444] at p510
                        rw [c498] at p511
                        rw [c499] at p512
                        refine tr_istore dX12_readTurner_186 (by decide) (by decide) ?_
                        refine tr_iload dX12_readTurner_188 hl422 ?_
                        refine tr_iload dX12_readTurner_190 rfl ?_
                        refine q_callSi hE (M' := mX12_has) (as := [_, _]) dX12_readTurner_192 lk12_329 inX12_has myX12_has ⟨by decide, by decide⟩ rfl (Nat.le_of_ble_eq_true rfl) rfl rfl (by decide) (by decide) (f_X12_has   (by exact om_d753a46c g455 g456 g457) (by exact om_fe604db5 b35.2 b35.1 p36 w78 h481 h483 h485 p501 p503 p504)) ?_
                        rintro v534 cn' K' N' I529 R530 L531 ⟨rfl, rfl, rfl, rfl, rfl, rfl, h535, p536, -⟩
                        rw [show v413.toInt = gh428 by exact om_acd7a85a g455, show v491.toInt = tkV gB gs426 by exact om_acd7a85a p501] at p536
                        refine q_if_eq 203 dX12_readTurner_195 (by decide) (fun h537 => ?_) (fun h537 => ?_)
                        · skip
                          refine tr_aload_n dX12_readTurner_203 hl415 ?_
                          have p538 := p512 (by exact om_cab07503 p502)
                          refine q_callVv hE (M' := mX12_goesOn) (as := []) dX12_readTurner_204 lk12_142 inX12_goesOn seX12_goesOn myX12_goesOn (by decide) ⟨by decide, by decide⟩ rfl (kR15 hS494.1 ta0) (Nat.le_of_ble_eq_true rfl) rfl rfl (by decide) (by decide) (fk_X12_goesOn hS494.1 (gB) ((tkN gB gs426)) ta0 (TxA.kp hT hS494 ta0 rfl rfl rfl (by decide +kernel) (by decide +kernel)) (by (try rw [c499]); first | done | with_reducible assumption | omega) (by (try rw [((hS494.cell ta0 (by decide +kernel)).trans c26)]); first | done | with_reducible assumption | omega) (by (try rw [c527]); first | done | with_reducible assumption | exact om_25eaf917 g460 g461 b471.1 p506)) ?_
                          rintro cn' K' N' I539 R540 L541 ⟨rfl, rfl, rfl, rfl, g542, gl543, p545, p546, p547, p548, p549, p550, p551, -⟩
                          have hM552 : NmM I539 R0 L425 a1 gQ := NmM.kpS hM493 g542 hS494.1 ta1 (by decide +kernel) (by decide +kernel)
                          have hS553 := hS494.tr g542 (by decide +kernel) (by decide +kernel)
                          have c554 : I539 a1 4 = v435 := (g542.cell ta1 (by decide +kernel)).trans c495
                          have c555 : I539 a0 13 = v524 := (g542.cell ta0 (by decide +kernel)).trans c525
                          have hO556 : FrO 14 a1 T I0 I539 := hO500.st g542 (by decide +kernel)
                          have hL557 := hL430.tr gl543 (by decide +kernel)
                          have hM558 : NmM I539 R0 L541 a1 gQ := NmM.kpL hM552 gl543 hS553.1 ta1 (by decide +kernel)
                          obtain ⟨v559, c560⟩ : ∃ v, I539 a0 9 = v := ⟨_, rfl⟩
                          have b561 := iv15_9 hS553.1 ta0 c560
                          rw [c560] at p545
                          rw [c560] at p546
                          obtain ⟨v562, c563⟩ : ∃ v, I539 a0 10 = v := ⟨_, rfl⟩
                          have b564 := iv15_10 hS553.1 ta0 c563
                          rw [c563] at p547
                          obtain ⟨v565, c566⟩ : ∃ v, I539 a0 11 = v := ⟨_, rfl⟩
                          rw [c566] at p548
                          obtain ⟨y567, c568⟩ : ∃ v, L541 a0 15 = v := ⟨_, rfl⟩
                          rw [c568] at p549
                          obtain ⟨v569, c570⟩ : ∃ v, I539 a0 12 = v := ⟨_, rfl⟩
                          rw [c570] at p550
                          obtain ⟨v571, c572⟩ : ∃ v, I539 a0 8 = v := ⟨_, rfl⟩
                          have b573 := iv15_8 hS553.1 ta0 c572
                          rw [c572] at p551
                          refine tr_iload dX12_readTurner_207 hl422 ?_
                          refine q_iconst dX12_readTurner_209 (by decide) ?_
                          intro v574 h575
                          refine tr_iload dX12_readTurner_210 rfl ?_
                          refine tr_ishl dX12_readTurner_212 ?_
                          refine tr_ior dX12_readTurner_213 ?_
                          obtain ⟨v576, lx577⟩ : ∃ z, z = v413 ||| (v574 <<< (v491 &&& 31)) := ⟨_, rfl⟩
                          rw [← lx577]
                          have p578 : v576.toInt = gh428 + pw (tkV gB gs426) ∧ gh428 + pw (tkV gB gs426) ≤ 15 := by rw [lx577, show gh428 = v413.toInt by exact om_7847aadf g455, show tkV gB gs426 = v491.toInt by exact om_7847aadf p501]; exact hut_or (by exact om_d753a46c g455 g456 g457) (by exact om_fe604db5 b35.2 b35.1 p36 w78 h481 h483 h485 p501 p503 p504) (by exact om_ee8a1e2d h575) (by rw [show v413.toInt = gh428 by exact om_acd7a85a g455, show v491.toInt = tkV gB gs426 by exact om_acd7a85a p501]; exact om_eca32e87 p536 h537)
                          have p5780 := pw_pos (tkV gB gs426)
                          refine tr_istore dX12_readTurner_214 (by decide) (by decide) ?_
                          refine tr_aload_n dX12_readTurner_216 hl415 ?_
                          refine q_bipush dX12_readTurner_217 (by decide +kernel) ?_
                          intro v579 h580
                          refine q_callVi hE (M' := mX12_eatsSign) (as := [_]) dX12_readTurner_219 lk12_221 inX12_eatsSign seX12_eatsSign myX12_eatsSign (by decide) ⟨by decide, by decide⟩ rfl (kR15 hS553.1 ta0) (Nat.le_of_ble_eq_true rfl) rfl rfl (by decide) (by decide) (fk_X12_eatsSign hS553.1 (gB) ((tkN gB gs426)) ta0 (TxA.kp hT hS553 ta0 rfl rfl rfl (by decide +kernel) (by decide +kernel)) (by (try rw [c560]); first | done | with_reducible assumption | omega) (by (try rw [c560]); first | done | with_reducible assumption | omega) (by (try rw [c563]); first | done | with_reducible assumption | omega) (by (try rw [c566]); first | done | with_reducible assumption | omega) (by (try rw [c568]); first | done | assumption) (by (try rw [c570]); first | done | assumption) (by (try rw [c572]); first | done | assumption) (by (try rw [((hS553.cell ta0 (by decide +kernel)).trans c26)]); first | done | with_reducible assumption | omega) (by first | done | with_reducible assumption | exact om_00f2e567 h580)) ?_
                          rintro v586 cn' K' N' I581 R582 L583 ⟨rfl, rfl, rfl, rfl, g584, gl585, h587, dj588, -⟩
                          have hM589 : NmM I581 R0 L541 a1 gQ := NmM.kpS hM558 g584 hS553.1 ta1 (by decide +kernel) (by decide +kernel)
                          have hS590 := hS553.tr g584 (by decide +kernel) (by decide +kernel)
                          have c591 : I581 a1 4 = v435 := (g584.cell ta1 (by decide +kernel)).trans c554
                          have c592 : I581 a0 13 = v524 := (g584.cell ta0 (by decide +kernel)).trans c555
                          have hO593 : FrO 14 a1 T I0 I581 := hO556.st g584 (by decide +kernel)
                          have hL594 := hL557.tr gl585 (by decide +kernel)
                          have hM595 : NmM I581 R0 L583 a1 gQ := NmM.kpL hM589 gl585 hS590.1 ta1 (by decide +kernel)
                          rcases dj588 with ⟨p596, p597, p598, p599, p600, p601, p602, p603, p604, p605, -⟩ | ⟨p606, p607, p608, p609, p610, p611, p612, p613, p614, p615, -⟩
                          · skip
                            rw [c592] at p598
                            rw [c555] at p598
                            obtain ⟨v616, c617⟩ : ∃ v, I581 a0 9 = v := ⟨_, rfl⟩
                            have b618 := iv15_9 hS590.1 ta0 c617
                            rw [c617] at p599
                            rw [c617] at p600
                            obtain ⟨v619, c620⟩ : ∃ v, I581 a0 10 = v := ⟨_, rfl⟩
                            have b621 := iv15_10 hS590.1 ta0 c620
                            rw [c620] at p601
                            obtain ⟨v622, c623⟩ : ∃ v, I581 a0 11 = v := ⟨_, rfl⟩
                            rw [c623] at p602
                            obtain ⟨y624, c625⟩ : ∃ v, L583 a0 15 = v := ⟨_, rfl⟩
                            rw [c625] at p603
                            obtain ⟨v626, c627⟩ : ∃ v, I581 a0 12 = v := ⟨_, rfl⟩
                            rw [c627] at p604
                            obtain ⟨v628, c629⟩ : ∃ v, I581 a0 8 = v := ⟨_, rfl⟩
                            have b630 := iv15_8 hS590.1 ta0 c629
                            rw [c629] at p605
                            refine tr_istore dX12_readTurner_222 (by decide) (by decide) ?_
                            refine tr_goto 159 dX12_readTurner_224 (by decide) ?_
                            have q1 := tkS_nx gB gs426 (by exact om_e6b7f10b p502)
                            have q2 := tkS_nx gB (tkN gB gs426) (by exact om_ac01260c h580 p597)
                            exact ih468 _ v576 v586 I581 L583 ((tkN gB (tkN gB gs426))) (gk475) ((gh428 + pw (tkV gB gs426))) v524 v435 v616 v619 v622 y624 v626 v628 hl415 hl416 hl417 hl418 hl419 hl420 hl421 rfl rfl hS590 hL594 hM595 hO593 c592 c591 c617 c620 c623 c625 c627 c629 (by rw [← g449]; simp only [huF, ↓reduceIte]; exact om_8c7adbd5 p36 w78 h481 h483 h485 p502 p503 p504 p536 h537 h580 p597) (by rw [← g450]; simp only [huP, ↓reduceIte]; exact om_9500e785 p36 w78 h481 h483 h485 p502 p503 p504 p536 h537 h580 p597) (by rw [← g451]; simp only [huS, ↓reduceIte]; exact om_20d81f82 h580 p597) (by rw [← g452]; simp only [huV, ↓reduceIte]; exact om_ed11fd4c h580 p597) (by exact om_acd7a85a g453) (by exact om_ee8a1e2d p596) (by exact om_82f20683 p578.1) (by exact om_d3e2b145 g456 g457 p578.1 p5780) (by exact om_d3a46a98 p578.1 p578.2) (by have q1 := tkS_nx gB gs426 (by exact om_e6b7f10b p502); have q2 := tkS_nx gB (tkN gB gs426) (by exact om_ac01260c h580 p597); omega) (by exact om_8ebee7bb p109 p178 p247 p316 p377 g459 p505) (by exact om_acd7a85a p599) (by exact om_fc4b6669 p600) (by exact om_acd7a85a p601) (by exact om_acd7a85a p602) (by assumption) (by assumption) (by assumption) (((rw467.tr (RoF.st g489 (by decide +kernel))).tr (RoF.st g542 (by decide +kernel))).tr (RoF.st g584 (by decide +kernel))) (by exact om_b16e0bb2 g454 g460 g461 g462 hm468 b471.1 b472.2 b472.1 h476 h478 h479 p506 p547 b564.2 b564.1 p601 q1 q2)
                          · skip
                            rw [c592] at p608
                            rw [c555] at p608
                            obtain ⟨v631, c632⟩ : ∃ v, I581 a0 9 = v := ⟨_, rfl⟩
                            have b633 := iv15_9 hS590.1 ta0 c632
                            rw [c632] at p609
                            rw [c632] at p610
                            obtain ⟨v634, c635⟩ : ∃ v, I581 a0 10 = v := ⟨_, rfl⟩
                            have b636 := iv15_10 hS590.1 ta0 c635
                            rw [c635] at p611
                            obtain ⟨v637, c638⟩ : ∃ v, I581 a0 11 = v := ⟨_, rfl⟩
                            rw [c638] at p612
                            obtain ⟨y639, c640⟩ : ∃ v, L583 a0 15 = v := ⟨_, rfl⟩
                            rw [c640] at p613
                            obtain ⟨v641, c642⟩ : ∃ v, I581 a0 12 = v := ⟨_, rfl⟩
                            rw [c642] at p614
                            obtain ⟨v643, c644⟩ : ∃ v, I581 a0 8 = v := ⟨_, rfl⟩
                            have b645 := iv15_8 hS590.1 ta0 c644
                            rw [c644] at p615
                            refine tr_istore dX12_readTurner_222 (by decide) (by decide) ?_
                            refine tr_goto 159 dX12_readTurner_224 (by decide) ?_
                            refine tr_iload dX12_readTurner_159 rfl ?_
                            refine q_if_eq 227 dX12_readTurner_161 (by decide) (fun h646 => ?_) (fun h646 => ?_)
                            · skip
                              refine tr_aload_n dX12_readTurner_227 hl415 ?_
                              refine q_getI dX12_readTurner_228 fl12_99 (kR15 hS590.1 ta0) c632 ?_
                              refine q_iconst dX12_readTurner_231 (by decide) ?_
                              intro v647 h648
                              refine q_icmp_ne 236 dX12_readTurner_232 (by decide) (fun h649 => ?_) (fun h649 => ?_)
                              · skip
                                refine tr_aload_n dX12_readTurner_236 hl415 ?_
                                refine tr_getR dX12_readTurner_237 fl12_188 (kR15 hS590.1 ta0) d2 ?_
                                refine q_getI dX12_readTurner_240 fl12_315 (kR14 hS590.1 ta1) c591 ?_
                                refine tr_istore dX12_readTurner_243 (by decide) (by decide) ?_
                                refine tr_aload_n dX12_readTurner_245 hl415 ?_
                                refine tr_lload_n dX12_readTurner_246 hl416 ?_
                                refine q_iconst dX12_readTurner_247 (by decide) ?_
                                intro v650 h651
                                refine tr_iload dX12_readTurner_248 rfl ?_
                                obtain ⟨v653, c654⟩ : ∃ v, I581 a1 7 = v := ⟨_, rfl⟩
                                have b655 := iv14_7 hS590.1 ta1 c654
                                have p652 := hS590.1.2.2.2.2.1 a0 ta0 _ d2
                                rw [c654, ((hS590.cell ta1 (by decide +kernel)).trans c42), c591] at p652
                                refine q_callVv hE (M' := mX12_names) (as := [_, _, _]) dX12_readTurner_250 lk12_293 inX12_names seX12_names myX12_names (by decide) ⟨by decide, by decide⟩ rfl (kR15 hS590.1 ta0) (Nat.le_of_ble_eq_true rfl) rfl rfl (by decide) (by decide) (fk_X12_names hS590.1  ta0 (fun q0 z0 => by obtain rfl := Option.some.inj ((d2).symm.trans z0); (try rw [c654]); first | done | with_reducible assumption | exact om_71299645 pre19 b43.2 b43.1 p44 b47.2 b47.1 p48 w80 w81 g453 b655.2 b655.1 p652) ⟨_, d2⟩) ?_
                                rintro cn' K' N' I656 R657 L658 ⟨rfl, rfl, rfl, rfl, g659, gl660, rp662, rp663, -⟩
                                have hS664 := hS590.tr g659 (by decide +kernel) (by decide +kernel)
                                have c665 : I656 a1 4 = v435 := (g659.cell ta1 (by decide +kernel)).trans c591
                                have c666 : I656 a0 13 = v524 := (g659.cell ta0 (by decide +kernel)).trans c592
                                have c667 : I656 a0 9 = v631 := (g659.cell ta0 (by decide +kernel)).trans c632
                                have c668 : I656 a0 10 = v634 := (g659.cell ta0 (by decide +kernel)).trans c635
                                have c669 : I656 a0 11 = v637 := (g659.cell ta0 (by decide +kernel)).trans c638
                                have c670 : I656 a0 12 = v641 := (g659.cell ta0 (by decide +kernel)).trans c642
                                have c671 : I656 a0 8 = v643 := (g659.cell ta0 (by decide +kernel)).trans c644
                                have hO672 : FrO 14 a1 T I0 I656 := hO593.tr (rp663 _ d2)
                                have hL673 := hL594.tr gl660 (by decide +kernel)
                                have c674 : L658 a0 15 = y639 := (gl660.cell ta0 (by decide +kernel)).trans c640
                                have hM675 := NmM.up7 (B := gB) (s := (tkN gB gs)) hM595 (rp662 _ d2) (by exact om_acd7a85a p69) (by exact om_ee8a1e2d h651) (by exact om_acd7a85a g453) (by rw [c654]; exact om_2fd3e869 p44 p48 w80 w81 g453 p652) (by exact om_fc4b6669 p64) (by exact om_dd98535d p68) (by exact om_dd98535d p67)
                                refine tr_aload_n dX12_readTurner_253 hl415 ?_
                                refine tr_getR dX12_readTurner_254 fl12_188 (kR15 hS664.1 ta0) d2 ?_
                                obtain ⟨a676, d677, ta676⟩ := rf14_20 hW0 ta1
                                refine tr_getR dX12_readTurner_257 fl12_333 (kR14 hS664.1 ta1) d677 ?_
                                refine tr_iload dX12_readTurner_260 rfl ?_
                                refine tr_iload_n dX12_readTurner_262 hl417 ?_
                                refine q_iast dX12_readTurner_263 (kR63 hS664.1 ta676) (ti_in (nR63 hS664.1 ta676) (by exact om_b3c9b955 pre19 b47.2 b47.1 p48 w81 g453) (by exact om_1c92eee0 pre19 b47.2 b47.1 p48 w81 g453)) hS664 ta676 (iokF rfl) rfl (by rfl) ?_
                                intro I678 hS679 e681 f680
                                have c682 : I678 a1 4 = v435 := (f680 _ _ (fun q => by have z := ta1; rw [q.1, ta676] at z; exact absurd z (by decide))).trans c665
                                have c683 : I678 a0 13 = v524 := (f680 _ _ (fun q => by have z := ta0; rw [q.1, ta676] at z; exact absurd z (by decide))).trans c666
                                have c684 : I678 a0 9 = v631 := (f680 _ _ (fun q => by have z := ta0; rw [q.1, ta676] at z; exact absurd z (by decide))).trans c667
                                have c685 : I678 a0 10 = v634 := (f680 _ _ (fun q => by have z := ta0; rw [q.1, ta676] at z; exact absurd z (by decide))).trans c668
                                have c686 : I678 a0 11 = v637 := (f680 _ _ (fun q => by have z := ta0; rw [q.1, ta676] at z; exact absurd z (by decide))).trans c669
                                have c687 : I678 a0 12 = v641 := (f680 _ _ (fun q => by have z := ta0; rw [q.1, ta676] at z; exact absurd z (by decide))).trans c670
                                have c688 : I678 a0 8 = v643 := (f680 _ _ (fun q => by have z := ta0; rw [q.1, ta676] at z; exact absurd z (by decide))).trans c671
                                have hO689 : FrO 14 a1 T I0 I678 := hO672.put f680 ta676 (Or.inl (by decide))
                                have hM690 : NmM I678 R0 L658 a1 (bdQ gB gQ 7 (tkN gB gs)) := NmM.kp1 hM675 f680 ta676 rfl rfl hS664.1 ta1
                                refine tr_aload_n dX12_readTurner_264 hl415 ?_
                                refine tr_getR dX12_readTurner_265 fl12_188 (kR15 hS679.1 ta0) d2 ?_
                                obtain ⟨a691, d692, ta691⟩ := rf14_21 hW0 ta1
                                refine tr_getR dX12_readTurner_268 fl12_336 (kR14 hS679.1 ta1) d692 ?_
                                refine tr_iload dX12_readTurner_271 rfl ?_
                                refine tr_iload dX12_readTurner_273 hl418 ?_
                                refine q_iast dX12_readTurner_275 (kR64 hS679.1 ta691) (ti_in (nR64 hS679.1 ta691) (by exact om_b3c9b955 pre19 b47.2 b47.1 p48 w81 g453) (by exact om_1c92eee0 pre19 b47.2 b47.1 p48 w81 g453)) hS679 ta691 (iokF rfl) rfl (by rfl) ?_
                                intro I693 hS694 e696 f695
                                have c697 : I693 a1 4 = v435 := (f695 _ _ (fun q => by have z := ta1; rw [q.1, ta691] at z; exact absurd z (by decide))).trans c682
                                have c698 : I693 a0 13 = v524 := (f695 _ _ (fun q => by have z := ta0; rw [q.1, ta691] at z; exact absurd z (by decide))).trans c683
                                have c699 : I693 a0 9 = v631 := (f695 _ _ (fun q => by have z := ta0; rw [q.1, ta691] at z; exact absurd z (by decide))).trans c684
                                have c700 : I693 a0 10 = v634 := (f695 _ _ (fun q => by have z := ta0; rw [q.1, ta691] at z; exact absurd z (by decide))).trans c685
                                have c701 : I693 a0 11 = v637 := (f695 _ _ (fun q => by have z := ta0; rw [q.1, ta691] at z; exact absurd z (by decide))).trans c686
                                have c702 : I693 a0 12 = v641 := (f695 _ _ (fun q => by have z := ta0; rw [q.1, ta691] at z; exact absurd z (by decide))).trans c687
                                have c703 : I693 a0 8 = v643 := (f695 _ _ (fun q => by have z := ta0; rw [q.1, ta691] at z; exact absurd z (by decide))).trans c688
                                have hO704 : FrO 14 a1 T I0 I693 := hO689.put f695 ta691 (Or.inl (by decide))
                                have hM705 : NmM I693 R0 L658 a1 (bdQ gB gQ 7 (tkN gB gs)) := NmM.kp1 hM690 f695 ta691 rfl rfl hS679.1 ta1
                                refine tr_aload_n dX12_readTurner_276 hl415 ?_
                                refine tr_getR dX12_readTurner_277 fl12_188 (kR15 hS694.1 ta0) d2 ?_
                                obtain ⟨a706, d707, ta706⟩ := rf14_22 hW0 ta1
                                refine tr_getR dX12_readTurner_280 fl12_339 (kR14 hS694.1 ta1) d707 ?_
                                refine tr_iload dX12_readTurner_283 rfl ?_
                                refine tr_iload dX12_readTurner_285 hl419 ?_
                                refine q_iast dX12_readTurner_287 (kR65 hS694.1 ta706) (ti_in (nR65 hS694.1 ta706) (by exact om_b3c9b955 pre19 b47.2 b47.1 p48 w81 g453) (by exact om_1c92eee0 pre19 b47.2 b47.1 p48 w81 g453)) hS694 ta706 (iokF rfl) rfl (by rfl) ?_
                                intro I708 hS709 e711 f710
                                have c712 : I708 a1 4 = v435 := (f710 _ _ (fun q => by have z := ta1; rw [q.1, ta706] at z; exact absurd z (by decide))).trans c697
                                have c713 : I708 a0 13 = v524 := (f710 _ _ (fun q => by have z := ta0; rw [q.1, ta706] at z; exact absurd z (by decide))).trans c698
                                have c714 : I708 a0 9 = v631 := (f710 _ _ (fun q => by have z := ta0; rw [q.1, ta706] at z; exact absurd z (by decide))).trans c699
                                have c715 : I708 a0 10 = v634 := (f710 _ _ (fun q => by have z := ta0; rw [q.1, ta706] at z; exact absurd z (by decide))).trans c700
                                have c716 : I708 a0 11 = v637 := (f710 _ _ (fun q => by have z := ta0; rw [q.1, ta706] at z; exact absurd z (by decide))).trans c701
                                have c717 : I708 a0 12 = v641 := (f710 _ _ (fun q => by have z := ta0; rw [q.1, ta706] at z; exact absurd z (by decide))).trans c702
                                have c718 : I708 a0 8 = v643 := (f710 _ _ (fun q => by have z := ta0; rw [q.1, ta706] at z; exact absurd z (by decide))).trans c703
                                have hO719 : FrO 14 a1 T I0 I708 := hO704.put f710 ta706 (Or.inl (by decide))
                                have hM720 : NmM I708 R0 L658 a1 (bdQ gB gQ 7 (tkN gB gs)) := NmM.kp1 hM705 f710 ta706 rfl rfl hS694.1 ta1
                                refine tr_aload_n dX12_readTurner_288 hl415 ?_
                                refine tr_getR dX12_readTurner_289 fl12_188 (kR15 hS709.1 ta0) d2 ?_
                                obtain ⟨a721, d722, ta721⟩ := rf14_23 hW0 ta1
                                refine tr_getR dX12_readTurner_292 fl12_342 (kR14 hS709.1 ta1) d722 ?_
                                refine tr_iload dX12_readTurner_295 rfl ?_
                                refine tr_iload dX12_readTurner_297 hl420 ?_
                                refine q_iast dX12_readTurner_299 (kR66 hS709.1 ta721) (ti_in (nR66 hS709.1 ta721) (by exact om_b3c9b955 pre19 b47.2 b47.1 p48 w81 g453) (by exact om_1c92eee0 pre19 b47.2 b47.1 p48 w81 g453)) hS709 ta721 (iokF rfl) rfl (by rfl) ?_
                                intro I723 hS724 e726 f725
                                have c727 : I723 a1 4 = v435 := (f725 _ _ (fun q => by have z := ta1; rw [q.1, ta721] at z; exact absurd z (by decide))).trans c712
                                have c728 : I723 a0 13 = v524 := (f725 _ _ (fun q => by have z := ta0; rw [q.1, ta721] at z; exact absurd z (by decide))).trans c713
                                have c729 : I723 a0 9 = v631 := (f725 _ _ (fun q => by have z := ta0; rw [q.1, ta721] at z; exact absurd z (by decide))).trans c714
                                have c730 : I723 a0 10 = v634 := (f725 _ _ (fun q => by have z := ta0; rw [q.1, ta721] at z; exact absurd z (by decide))).trans c715
                                have c731 : I723 a0 11 = v637 := (f725 _ _ (fun q => by have z := ta0; rw [q.1, ta721] at z; exact absurd z (by decide))).trans c716
                                have c732 : I723 a0 12 = v641 := (f725 _ _ (fun q => by have z := ta0; rw [q.1, ta721] at z; exact absurd z (by decide))).trans c717
                                have c733 : I723 a0 8 = v643 := (f725 _ _ (fun q => by have z := ta0; rw [q.1, ta721] at z; exact absurd z (by decide))).trans c718
                                have hO734 : FrO 14 a1 T I0 I723 := hO719.put f725 ta721 (Or.inl (by decide))
                                have hM735 : NmM I723 R0 L658 a1 (bdQ gB gQ 7 (tkN gB gs)) := NmM.kp1 hM720 f725 ta721 rfl rfl hS709.1 ta1
                                refine tr_aload_n dX12_readTurner_300 hl415 ?_
                                refine tr_getR dX12_readTurner_301 fl12_188 (kR15 hS724.1 ta0) d2 ?_
                                obtain ⟨a736, d737, ta736⟩ := rf14_24 hW0 ta1
                                refine tr_getR dX12_readTurner_304 fl12_344 (kR14 hS724.1 ta1) d737 ?_
                                refine tr_iload dX12_readTurner_307 rfl ?_
                                refine tr_iload dX12_readTurner_309 hl421 ?_
                                refine q_iast dX12_readTurner_311 (kR67 hS724.1 ta736) (ti_in (nR67 hS724.1 ta736) (by exact om_b3c9b955 pre19 b47.2 b47.1 p48 w81 g453) (by exact om_1c92eee0 pre19 b47.2 b47.1 p48 w81 g453)) hS724 ta736 (iokF rfl) rfl (by rfl) ?_
                                intro I738 hS739 e741 f740
                                have c742 : I738 a1 4 = v435 := (f740 _ _ (fun q => by have z := ta1; rw [q.1, ta736] at z; exact absurd z (by decide))).trans c727
                                have c743 : I738 a0 13 = v524 := (f740 _ _ (fun q => by have z := ta0; rw [q.1, ta736] at z; exact absurd z (by decide))).trans c728
                                have c744 : I738 a0 9 = v631 := (f740 _ _ (fun q => by have z := ta0; rw [q.1, ta736] at z; exact absurd z (by decide))).trans c729
                                have c745 : I738 a0 10 = v634 := (f740 _ _ (fun q => by have z := ta0; rw [q.1, ta736] at z; exact absurd z (by decide))).trans c730
                                have c746 : I738 a0 11 = v637 := (f740 _ _ (fun q => by have z := ta0; rw [q.1, ta736] at z; exact absurd z (by decide))).trans c731
                                have c747 : I738 a0 12 = v641 := (f740 _ _ (fun q => by have z := ta0; rw [q.1, ta736] at z; exact absurd z (by decide))).trans c732
                                have c748 : I738 a0 8 = v643 := (f740 _ _ (fun q => by have z := ta0; rw [q.1, ta736] at z; exact absurd z (by decide))).trans c733
                                have hO749 : FrO 14 a1 T I0 I738 := hO734.put f740 ta736 (Or.inl (by decide))
                                have hM750 : NmM I738 R0 L658 a1 (bdQ gB gQ 7 (tkN gB gs)) := NmM.kp1 hM735 f740 ta736 rfl rfl hS724.1 ta1
                                refine tr_aload_n dX12_readTurner_312 hl415 ?_
                                refine tr_getR dX12_readTurner_313 fl12_188 (kR15 hS739.1 ta0) d2 ?_
                                obtain ⟨a751, d752, ta751⟩ := rf14_25 hW0 ta1
                                refine tr_getR dX12_readTurner_316 fl12_346 (kR14 hS739.1 ta1) d752 ?_
                                refine tr_iload dX12_readTurner_319 rfl ?_
                                refine tr_iload dX12_readTurner_321 rfl ?_
                                refine q_iast dX12_readTurner_323 (kR68 hS739.1 ta751) (ti_in (nR68 hS739.1 ta751) (by exact om_b3c9b955 pre19 b47.2 b47.1 p48 w81 g453) (by exact om_1c92eee0 pre19 b47.2 b47.1 p48 w81 g453)) hS739 ta751 (iokF rfl) rfl (by rfl) ?_
                                intro I753 hS754 e756 f755
                                have c757 : I753 a1 4 = v435 := (f755 _ _ (fun q => by have z := ta1; rw [q.1, ta751] at z; exact absurd z (by decide))).trans c742
                                have c758 : I753 a0 13 = v524 := (f755 _ _ (fun q => by have z := ta0; rw [q.1, ta751] at z; exact absurd z (by decide))).trans c743
                                have c759 : I753 a0 9 = v631 := (f755 _ _ (fun q => by have z := ta0; rw [q.1, ta751] at z; exact absurd z (by decide))).trans c744
                                have c760 : I753 a0 10 = v634 := (f755 _ _ (fun q => by have z := ta0; rw [q.1, ta751] at z; exact absurd z (by decide))).trans c745
                                have c761 : I753 a0 11 = v637 := (f755 _ _ (fun q => by have z := ta0; rw [q.1, ta751] at z; exact absurd z (by decide))).trans c746
                                have c762 : I753 a0 12 = v641 := (f755 _ _ (fun q => by have z := ta0; rw [q.1, ta751] at z; exact absurd z (by decide))).trans c747
                                have c763 : I753 a0 8 = v643 := (f755 _ _ (fun q => by have z := ta0; rw [q.1, ta751] at z; exact absurd z (by decide))).trans c748
                                have hO764 : FrO 14 a1 T I0 I753 := hO749.put f755 ta751 (Or.inl (by decide))
                                have hM765 : NmM I753 R0 L658 a1 (bdQ gB gQ 7 (tkN gB gs)) := NmM.kp1 hM750 f755 ta751 rfl rfl hS739.1 ta1
                                refine tr_aload_n dX12_readTurner_324 hl415 ?_
                                refine tr_getR dX12_readTurner_325 fl12_188 (kR15 hS754.1 ta0) d2 ?_
                                refine tr_dup dX12_readTurner_328 rfl ?_
                                refine q_getI dX12_readTurner_329 fl12_315 (kR14 hS754.1 ta1) c757 ?_
                                refine q_iconst dX12_readTurner_332 (by decide) ?_
                                intro v766 h767
                                refine q_iaddE dX12_readTurner_333 (by intro j1 j2 j3 j4; exact om_db8a61e6 pre19 b47.2 b47.1 p48 w81 g453 h767) ?_
                                intro v768 h769
                                refine q_putX dX12_readTurner_334 fl12_315 (kR14 hS754.1 ta1) (Or.inl rfl) hS754 ta1 (by decide +kernel) (hS754.1.putN (d' := 0) ta0 d2 (Or.inr (Or.inr rfl)) (by rw [c757]; exact om_73462c49 h767 h769) (by decide) (by show (0 : Int) ≤ v768.toInt ∧ v768.toInt ≤ (5 : Int); exact om_e92d58f1 pre19 b47.2 b47.1 p48 w81 g453 h767 h769)) ?_
                                intro I770 hS771 e772 f773
                                have c774 : I770 a0 13 = v524 := (f773 _ _ (fun q => absurd q.2 (by decide))).trans c758
                                have c775 : I770 a0 9 = v631 := (f773 _ _ (fun q => absurd q.2 (by decide))).trans c759
                                have c776 : I770 a0 10 = v634 := (f773 _ _ (fun q => absurd q.2 (by decide))).trans c760
                                have c777 : I770 a0 11 = v637 := (f773 _ _ (fun q => absurd q.2 (by decide))).trans c761
                                have c778 : I770 a0 12 = v641 := (f773 _ _ (fun q => absurd q.2 (by decide))).trans c762
                                have c779 : I770 a0 8 = v643 := (f773 _ _ (fun q => absurd q.2 (by decide))).trans c763
                                have hO780 : FrO 14 a1 T I0 I770 := hO764.put f773 ta1 (Or.inr rfl)
                                have hM781 : NmM I770 R0 L658 a1 (bdQ gB gQ 7 (tkN gB gs)) := NmM.kp1 hM765 f773 ta1 rfl rfl hS754.1 ta1
                                obtain ⟨v782, c783⟩ : ∃ v, I770 a0 14 = v := ⟨_, rfl⟩
                                have u784 : huF gB gQ 901 0 (tkN gB (tkN gB (tkN gB (tkN gB (tkN gB (tkN gB (tkN gB (tkN gB (tkN gB (tkN gB (tkN gB (tkN gB gs)))))))))))) = 0 := by rw [← g449]; simp only [huF, ↓reduceIte]; exact om_f0282f65 p36 w78 h481 h483 h485 p502 p503 p504 p536 h537 p546 p545 b561.1 h580 p607 p609 h648 h649
                                have eF := hF.eq
                                have eP := hP.eq
                                have es785 : tuS gB gQ (tkN gB gs) = (tkN gB gs426) := by rw [tuS, ← g451]; simp only [huS, ↓reduceIte]; exact om_92912ced p546 p545 b561.1 h580 p607 p609 h648 h649
                                exact tr_vret hZ dX12_readTurner_337 rfl (by decide) (by decide) (hq _ _ _ ⟨hS771, (fun b hb => (Option.some.inj (d2.symm.trans hb)) ▸ ((((((((((((FrM.ro rw467).st g489 (by decide +kernel)).st g542 (by decide +kernel)).st g584 (by decide +kernel)).st g659 (by decide +kernel)).pu f680 (by decide) (by decide) d677).pu f695 (by decide) (by decide) d692).pu f710 (by decide) (by decide) d707).pu f725 (by decide) (by decide) d722).pu f740 (by decide) (by decide) d737).pu f755 (by decide) (by decide) d752).put f773 ta1 (by decide))), (fun dr hd => (Option.some.inj (d2.symm.trans hd)) ▸ hO780), (Or.inl ⟨(by (try rw [w76]); (try rw [es785]); first | done | with_reducible assumption | exact om_d12bbb76 u784 eF), (fun q0 z0 => by obtain rfl := Option.some.inj ((d2).symm.trans z0); (try rw [w76]); (try rw [es785]); (try rw [((hS771.cell ta1 (by decide +kernel)).trans c30)]); first | done | with_reducible assumption | exact om_2757374c p32 w77), (fun q0 z0 => by obtain rfl := Option.some.inj ((d2).symm.trans z0); (try rw [w76]); (try rw [es785]); (try rw [((hS771.cell ta1 (by decide +kernel)).trans c34)]); first | done | with_reducible assumption | exact om_2757374c p36 w78), (fun q0 z0 => by obtain rfl := Option.some.inj ((d2).symm.trans z0); (try rw [w76]); (try rw [es785]); (try rw [((hS771.cell ta1 (by decide +kernel)).trans c38)]); first | done | with_reducible assumption | exact om_2757374c p40 w79), (fun q0 z0 => by obtain rfl := Option.some.inj ((d2).symm.trans z0); (try rw [w76]); (try rw [es785]); (try rw [((hS771.cell ta1 (by decide +kernel)).trans c42)]); first | done | with_reducible assumption | exact om_2757374c p44 w80), (fun q0 z0 => by obtain rfl := Option.some.inj ((d2).symm.trans z0); (try rw [w76]); (try rw [es785]); (try rw [e772]); first | done | with_reducible assumption | exact om_da36d9ea p48 w81 g453 h767 h769), (fun q0 z0 => by obtain rfl := Option.some.inj ((d2).symm.trans z0); (try rw [w76]); (try rw [es785]); (try rw [((hS771.cell ta1 (by decide +kernel)).trans c50)]); first | done | with_reducible assumption | exact om_2757374c p52 w82), (fun q0 z0 => by obtain rfl := Option.some.inj ((d2).symm.trans z0); (try rw [w76]); (try rw [es785]); (try rw [((hS771.cell ta1 (by decide +kernel)).trans c54)]); first | done | with_reducible assumption | exact om_2757374c p56 w83), (fun q0 z0 => by obtain rfl := Option.some.inj ((d2).symm.trans z0); (try rw [w76]); (try rw [es785]); (try rw [((hS771.cell ta1 (by decide +kernel)).trans c58)]); first | done | with_reducible assumption | exact om_2757374c p60 w85), (by (try rw [w76]); (try rw [es785]); (try rw [c774]); (try rw [c72]); first | done | with_reducible assumption | exact om_8ebee7bb p109 p178 p247 p316 p377 g459 p505), (by (try rw [w76]); (try rw [es785]); (try rw [c775]); first | done | with_reducible assumption | omega), (by (try rw [w76]); (try rw [es785]); (try rw [c775]); first | done | with_reducible assumption | omega), (by (try rw [w76]); (try rw [es785]); (try rw [c776]); first | done | with_reducible assumption | omega), (by (try rw [w76]); (try rw [es785]); (try rw [c777]); first | done | with_reducible assumption | omega), (by (try rw [w76]); (try rw [es785]); (try rw [c674]); first | done | assumption), (by (try rw [w76]); (try rw [es785]); (try rw [c778]); first | done | assumption), (by (try rw [w76]); (try rw [es785]); (try rw [c779]); first | done | assumption), hL673, (fun b hb => (Option.some.inj (d2.symm.trans hb)) ▸ NmM.ln hM781 (by exact om_58805a6b p63)), (fun E b hb hE => by obtain rfl := Option.some.inj (d2.symm.trans hb); exact AlM.tu hE hW0 ta1 (by exact om_58805a6b p63) (by exact om_dba9a88b pre19 b47.2 b47.1 p48 w81 g453 h767 h769) (by exact om_fc4b6669 p64) (hS771.cell ta1 (by decide +kernel)) (RoF.st (ex := xr 63 68) hS771 (by decide +kernel)) (fun f hf => match f, hf with | 0, _ => (fun a ha => by obtain rfl := Option.some.inj (d677.symm.trans ha); have zi : v435.toNatClampNeg = (gQ 4).toNat := congrArg Int.toNat (by exact om_acd7a85a g453); have ze := (Eq.trans ((f773 _ _ (fun q => by have z := ta676; rw [q.1, ta1] at z; exact absurd z (by decide))).trans ((f755 _ _ (fun q => by have z := ta676; rw [q.1, ta751] at z; exact absurd z (by decide))).trans ((f740 _ _ (fun q => by have z := ta676; rw [q.1, ta736] at z; exact absurd z (by decide))).trans ((f725 _ _ (fun q => by have z := ta676; rw [q.1, ta721] at z; exact absurd z (by decide))).trans ((f710 _ _ (fun q => by have z := ta676; rw [q.1, ta706] at z; exact absurd z (by decide))).trans (f695 _ _ (fun q => by have z := ta676; rw [q.1, ta691] at z; exact absurd z (by decide)))))))) e681); rw [zi] at ze; exact ⟨by rw [ze]; exact om_93d824d4 pre25, fun j hj => (Eq.trans ((f773 _ _ (fun q => by have z := ta676; rw [q.1, ta1] at z; exact absurd z (by decide))).trans ((f755 _ _ (fun q => by have z := ta676; rw [q.1, ta751] at z; exact absurd z (by decide))).trans ((f740 _ _ (fun q => by have z := ta676; rw [q.1, ta736] at z; exact absurd z (by decide))).trans ((f725 _ _ (fun q => by have z := ta676; rw [q.1, ta721] at z; exact absurd z (by decide))).trans ((f710 _ _ (fun q => by have z := ta676; rw [q.1, ta706] at z; exact absurd z (by decide))).trans ((f695 _ _ (fun q => by have z := ta676; rw [q.1, ta691] at z; exact absurd z (by decide))).trans ((f680 _ _ (fun q => hj (q.2.trans zi))).trans ((g659.cell ta676 (wm_no (by decide +kernel))).trans ((g584.cell ta676 (wm_no (by decide +kernel))).trans ((g542.cell ta676 (wm_no (by decide +kernel))).trans (g489.cell ta676 (wm_no (by decide +kernel))))))))))))) (rw467 _ _ (by rw [ta676]; rfl)))⟩) | 1, _ => (fun a ha => by obtain rfl := Option.some.inj (d692.symm.trans ha); have zi : v435.toNatClampNeg = (gQ 4).toNat := congrArg Int.toNat (by exact om_acd7a85a g453); have ze := (Eq.trans ((f773 _ _ (fun q => by have z := ta691; rw [q.1, ta1] at z; exact absurd z (by decide))).trans ((f755 _ _ (fun q => by have z := ta691; rw [q.1, ta751] at z; exact absurd z (by decide))).trans ((f740 _ _ (fun q => by have z := ta691; rw [q.1, ta736] at z; exact absurd z (by decide))).trans ((f725 _ _ (fun q => by have z := ta691; rw [q.1, ta721] at z; exact absurd z (by decide))).trans (f710 _ _ (fun q => by have z := ta691; rw [q.1, ta706] at z; exact absurd z (by decide))))))) e696); rw [zi] at ze; exact ⟨by rw [ze]; exact om_e5d02c7a p103, fun j hj => (Eq.trans ((f773 _ _ (fun q => by have z := ta691; rw [q.1, ta1] at z; exact absurd z (by decide))).trans ((f755 _ _ (fun q => by have z := ta691; rw [q.1, ta751] at z; exact absurd z (by decide))).trans ((f740 _ _ (fun q => by have z := ta691; rw [q.1, ta736] at z; exact absurd z (by decide))).trans ((f725 _ _ (fun q => by have z := ta691; rw [q.1, ta721] at z; exact absurd z (by decide))).trans ((f710 _ _ (fun q => by have z := ta691; rw [q.1, ta706] at z; exact absurd z (by decide))).trans ((f695 _ _ (fun q => hj (q.2.trans zi))).trans ((f680 _ _ (fun q => by have z := ta691; rw [q.1, ta676] at z; exact absurd z (by decide))).trans ((g659.cell ta691 (wm_no (by decide +kernel))).trans ((g584.cell ta691 (wm_no (by decide +kernel))).trans ((g542.cell ta691 (wm_no (by decide +kernel))).trans (g489.cell ta691 (wm_no (by decide +kernel))))))))))))) (rw467 _ _ (by rw [ta691]; rfl)))⟩) | 2, _ => (fun a ha => by obtain rfl := Option.some.inj (d707.symm.trans ha); have zi : v435.toNatClampNeg = (gQ 4).toNat := congrArg Int.toNat (by exact om_acd7a85a g453); have ze := (Eq.trans ((f773 _ _ (fun q => by have z := ta706; rw [q.1, ta1] at z; exact absurd z (by decide))).trans ((f755 _ _ (fun q => by have z := ta706; rw [q.1, ta751] at z; exact absurd z (by decide))).trans ((f740 _ _ (fun q => by have z := ta706; rw [q.1, ta736] at z; exact absurd z (by decide))).trans (f725 _ _ (fun q => by have z := ta706; rw [q.1, ta721] at z; exact absurd z (by decide)))))) e711); rw [zi] at ze; exact ⟨by rw [ze]; exact om_21dbf64c p172, fun j hj => (Eq.trans ((f773 _ _ (fun q => by have z := ta706; rw [q.1, ta1] at z; exact absurd z (by decide))).trans ((f755 _ _ (fun q => by have z := ta706; rw [q.1, ta751] at z; exact absurd z (by decide))).trans ((f740 _ _ (fun q => by have z := ta706; rw [q.1, ta736] at z; exact absurd z (by decide))).trans ((f725 _ _ (fun q => by have z := ta706; rw [q.1, ta721] at z; exact absurd z (by decide))).trans ((f710 _ _ (fun q => hj (q.2.trans zi))).trans ((f695 _ _ (fun q => by have z := ta706; rw [q.1, ta691] at z; exact absurd z (by decide))).trans ((f680 _ _ (fun q => by have z := ta706; rw [q.1, ta676] at z; exact absurd z (by decide))).trans ((g659.cell ta706 (wm_no (by decide +kernel))).trans ((g584.cell ta706 (wm_no (by decide +kernel))).trans ((g542.cell ta706 (wm_no (by decide +kernel))).trans (g489.cell ta706 (wm_no (by decide +kernel))))))))))))) (rw467 _ _ (by rw [ta706]; rfl)))⟩) | 3, _ => (fun a ha => by obtain rfl := Option.some.inj (d722.symm.trans ha); have zi : v435.toNatClampNeg = (gQ 4).toNat := congrArg Int.toNat (by exact om_acd7a85a g453); have ze := (Eq.trans ((f773 _ _ (fun q => by have z := ta721; rw [q.1, ta1] at z; exact absurd z (by decide))).trans ((f755 _ _ (fun q => by have z := ta721; rw [q.1, ta751] at z; exact absurd z (by decide))).trans (f740 _ _ (fun q => by have z := ta721; rw [q.1, ta736] at z; exact absurd z (by decide))))) e726); rw [zi] at ze; exact ⟨by rw [ze]; exact om_2638c671 p241, fun j hj => (Eq.trans ((f773 _ _ (fun q => by have z := ta721; rw [q.1, ta1] at z; exact absurd z (by decide))).trans ((f755 _ _ (fun q => by have z := ta721; rw [q.1, ta751] at z; exact absurd z (by decide))).trans ((f740 _ _ (fun q => by have z := ta721; rw [q.1, ta736] at z; exact absurd z (by decide))).trans ((f725 _ _ (fun q => hj (q.2.trans zi))).trans ((f710 _ _ (fun q => by have z := ta721; rw [q.1, ta706] at z; exact absurd z (by decide))).trans ((f695 _ _ (fun q => by have z := ta721; rw [q.1, ta691] at z; exact absurd z (by decide))).trans ((f680 _ _ (fun q => by have z := ta721; rw [q.1, ta676] at z; exact absurd z (by decide))).trans ((g659.cell ta721 (wm_no (by decide +kernel))).trans ((g584.cell ta721 (wm_no (by decide +kernel))).trans ((g542.cell ta721 (wm_no (by decide +kernel))).trans (g489.cell ta721 (wm_no (by decide +kernel))))))))))))) (rw467 _ _ (by rw [ta721]; rfl)))⟩) | 4, _ => (fun a ha => by obtain rfl := Option.some.inj (d737.symm.trans ha); have zi : v435.toNatClampNeg = (gQ 4).toNat := congrArg Int.toNat (by exact om_acd7a85a g453); have ze := (Eq.trans ((f773 _ _ (fun q => by have z := ta736; rw [q.1, ta1] at z; exact absurd z (by decide))).trans (f755 _ _ (fun q => by have z := ta736; rw [q.1, ta751] at z; exact absurd z (by decide)))) e741); rw [zi] at ze; exact ⟨by rw [ze]; exact om_cd00956e p310, fun j hj => (Eq.trans ((f773 _ _ (fun q => by have z := ta736; rw [q.1, ta1] at z; exact absurd z (by decide))).trans ((f755 _ _ (fun q => by have z := ta736; rw [q.1, ta751] at z; exact absurd z (by decide))).trans ((f740 _ _ (fun q => hj (q.2.trans zi))).trans ((f725 _ _ (fun q => by have z := ta736; rw [q.1, ta721] at z; exact absurd z (by decide))).trans ((f710 _ _ (fun q => by have z := ta736; rw [q.1, ta706] at z; exact absurd z (by decide))).trans ((f695 _ _ (fun q => by have z := ta736; rw [q.1, ta691] at z; exact absurd z (by decide))).trans ((f680 _ _ (fun q => by have z := ta736; rw [q.1, ta676] at z; exact absurd z (by decide))).trans ((g659.cell ta736 (wm_no (by decide +kernel))).trans ((g584.cell ta736 (wm_no (by decide +kernel))).trans ((g542.cell ta736 (wm_no (by decide +kernel))).trans (g489.cell ta736 (wm_no (by decide +kernel))))))))))))) (rw467 _ _ (by rw [ta736]; rfl)))⟩) | 5, _ => (fun a ha => by obtain rfl := Option.some.inj (d752.symm.trans ha); have zi : v435.toNatClampNeg = (gQ 4).toNat := congrArg Int.toNat (by exact om_acd7a85a g453); have ze := (Eq.trans (f773 _ _ (fun q => by have z := ta751; rw [q.1, ta1] at z; exact absurd z (by decide))) e756); rw [zi] at ze; exact ⟨by rw [ze]; simp only [tuD, ↓reduceIte]; rw [← g452]; simp only [huV, ↓reduceIte]; exact om_9c434f64 p546 p545 b561.1 p578.1 h580 p607 p609 h648 h649, fun j hj => (Eq.trans ((f773 _ _ (fun q => by have z := ta751; rw [q.1, ta1] at z; exact absurd z (by decide))).trans ((f755 _ _ (fun q => hj (q.2.trans zi))).trans ((f740 _ _ (fun q => by have z := ta751; rw [q.1, ta736] at z; exact absurd z (by decide))).trans ((f725 _ _ (fun q => by have z := ta751; rw [q.1, ta721] at z; exact absurd z (by decide))).trans ((f710 _ _ (fun q => by have z := ta751; rw [q.1, ta706] at z; exact absurd z (by decide))).trans ((f695 _ _ (fun q => by have z := ta751; rw [q.1, ta691] at z; exact absurd z (by decide))).trans ((f680 _ _ (fun q => by have z := ta751; rw [q.1, ta676] at z; exact absurd z (by decide))).trans ((g659.cell ta751 (wm_no (by decide +kernel))).trans ((g584.cell ta751 (wm_no (by decide +kernel))).trans ((g542.cell ta751 (wm_no (by decide +kernel))).trans (g489.cell ta751 (wm_no (by decide +kernel))))))))))))) (rw467 _ _ (by rw [ta751]; rfl)))⟩) | f + 6, h => absurd h (by exact om_8f56e58f h))), trivial⟩), trivial⟩)
                              · skip
                                exfalso; exact om_ab4be5f1 p546 p545 b561.1 p609 h648 h649
                            · skip
                              exfalso; exact om_3a97d4a5 p606 h646
                        · skip
                          refine tr_aload_n dX12_readTurner_198 hl415 ?_
                          refine q_iconst dX12_readTurner_199 (by decide) ?_
                          intro v786 h787
                          refine q_callVv hE (M' := mX12_flaw) (as := [_]) dX12_readTurner_200 lk12_145 inX12_flaw seX12_flaw myX12_flaw (by decide) ⟨by decide, by decide⟩ rfl (kR15 hS494.1 ta0) (Nat.le_of_ble_eq_true rfl) rfl rfl (by decide) (by decide) (fk_X12_flaw hS494.1  ta0 (by exact om_7e011daf h787) (by (try rw [c527]); first | done | with_reducible assumption | exact om_25eaf917 g460 g461 b471.1 p506)) ?_
                          rintro cn' K' N' I788 R789 L790 ⟨rfl, rfl, rfl, rfl, rfl, g791, p794, p795, p796, -⟩
                          have hM797 : NmM I788 R0 L425 a1 gQ := NmM.kpS hM493 g791 hS494.1 ta1 (by decide +kernel) (by decide +kernel)
                          have hS798 := hS494.tr g791 (by decide +kernel) (by decide +kernel)
                          have c799 : I788 a1 4 = v435 := (g791.cell ta1 (by decide +kernel)).trans c495
                          have c800 : I788 a0 10 = v439 := (g791.cell ta0 (by decide +kernel)).trans c496
                          have c801 : I788 a0 11 = v441 := (g791.cell ta0 (by decide +kernel)).trans c497
                          have c802 : I788 a0 12 = v445 := (g791.cell ta0 (by decide +kernel)).trans c498
                          have c803 : I788 a0 8 = v447 := (g791.cell ta0 (by decide +kernel)).trans c499
                          have hO804 : FrO 14 a1 T I0 I788 := hO500.st g791 (by decide +kernel)
                          obtain ⟨v805, c806⟩ : ∃ v, I788 a0 9 = v := ⟨_, rfl⟩
                          have b807 := iv15_9 hS798.1 ta0 c806
                          rw [c806] at p794
                          obtain ⟨v808, c809⟩ : ∃ v, I788 a0 13 = v := ⟨_, rfl⟩
                          rw [c809] at p795
                          obtain ⟨v810, c811⟩ : ∃ v, I788 a0 14 = v := ⟨_, rfl⟩
                          rw [c811] at p796
                          rw [c496] at p796
                          refine tr_aload_n dX12_readTurner_203 hl415 ?_
                          refine q_callVv hE (M' := mX12_goesOn) (as := []) dX12_readTurner_204 lk12_142 inX12_goesOn seX12_goesOn myX12_goesOn (by decide) ⟨by decide, by decide⟩ rfl (kR15 hS798.1 ta0) (Nat.le_of_ble_eq_true rfl) rfl rfl (by decide) (by decide) (k_X12_goesOn hS798.1 ta0) ?_
                          rintro cn' K' N' I812 R813 L814 ⟨rfl, rfl, rfl, rfl, g815, p817, p818, p819, w820, -⟩
                          have hS821 := hS798.tr g815 (by decide +kernel) (by decide +kernel)
                          have c822 : I812 a1 4 = v435 := (g815.cell ta1 (by decide +kernel)).trans c799
                          have c823 : I812 a0 13 = v808 := (g815.cell ta0 (by decide +kernel)).trans c809
                          have c824 : I812 a0 14 = v810 := (g815.cell ta0 (by decide +kernel)).trans c811
                          obtain ⟨v825, c826⟩ : ∃ v, I812 a0 9 = v := ⟨_, rfl⟩
                          have b827 := iv15_9 hS821.1 ta0 c826
                          rw [c806] at p817
                          rw [c826] at p817
                          rw [c806] at p818
                          rw [c826] at p818
                          obtain ⟨v828, c829⟩ : ∃ v, I812 a0 8 = v := ⟨_, rfl⟩
                          have b830 := iv15_8 hS821.1 ta0 c829
                          rw [c829] at p819
                          rw [c803] at p819
                          rw [c823] at p819
                          rw [c809] at p819
                          have hO831 : FrO 14 a1 T I0 I812 := hO804.st g815 (by decide +kernel)
                          have ov832 := w820.over (by rw [c806]; exact om_394b70a2 p794)
                          obtain ⟨v833, c834⟩ : ∃ v, I812 a0 9 = v := ⟨_, rfl⟩
                          have b835 := iv15_9 hS821.1 ta0 c834
                          obtain ⟨v836, c837⟩ : ∃ v, I812 a0 13 = v := ⟨_, rfl⟩
                          obtain ⟨v838, c839⟩ : ∃ v, I812 a0 14 = v := ⟨_, rfl⟩
                          (try rw [c834] at ov832)
                          (try rw [c837] at ov832)
                          (try rw [c839] at ov832)
                          (try rw [c806] at ov832)
                          (try rw [c809] at ov832)
                          (try rw [c811] at ov832)
                          refine tr_iload dX12_readTurner_207 hl422 ?_
                          refine q_iconst dX12_readTurner_209 (by decide) ?_
                          intro v840 h841
                          refine tr_iload dX12_readTurner_210 rfl ?_
                          refine q_ishlE dX12_readTurner_212 (by exact om_ee8a1e2d h841) (by exact om_791b09ff b35.2 b35.1 p36 w78 h481 h483 h485 p501 p503 p504) ?_
                          intro v842 h843
                          refine q_ior dX12_readTurner_213 ?_
                          intro v844
                          refine tr_istore dX12_readTurner_214 (by decide) (by decide) ?_
                          refine tr_aload_n dX12_readTurner_216 hl415 ?_
                          refine q_bipush dX12_readTurner_217 (by decide +kernel) ?_
                          intro v845 h846
                          refine q_callVi hE (M' := mX12_eatsSign) (as := [_]) dX12_readTurner_219 lk12_221 inX12_eatsSign seX12_eatsSign myX12_eatsSign (by decide) ⟨by decide, by decide⟩ rfl (kR15 hS821.1 ta0) (Nat.le_of_ble_eq_true rfl) rfl rfl (by decide) (by decide) (k_X12_eatsSign hS821.1 ta0) ?_
                          rintro v851 cn' K' N' I847 R848 L849 ⟨rfl, rfl, rfl, rfl, g850, h852, p853, p854, w855, -⟩
                          have hS856 := hS821.tr g850 (by decide +kernel) (by decide +kernel)
                          have c857 : I847 a1 4 = v435 := (g850.cell ta1 (by decide +kernel)).trans c822
                          have c858 : I847 a0 13 = v836 := (g850.cell ta0 (by decide +kernel)).trans c837
                          have c859 : I847 a0 14 = v838 := (g850.cell ta0 (by decide +kernel)).trans c839
                          rw [c834] at p853
                          obtain ⟨v860, c861⟩ : ∃ v, I847 a0 8 = v := ⟨_, rfl⟩
                          have b862 := iv15_8 hS856.1 ta0 c861
                          rw [c861] at p854
                          rw [c829] at p854
                          have hO863 : FrO 14 a1 T I0 I847 := hO831.st g850 (by decide +kernel)
                          have ov864 := w855.over (by rw [c834]; exact om_394b70a2 ov832.1)
                          obtain ⟨v865, c866⟩ : ∃ v, I847 a0 9 = v := ⟨_, rfl⟩
                          have b867 := iv15_9 hS856.1 ta0 c866
                          obtain ⟨v868, c869⟩ : ∃ v, I847 a0 13 = v := ⟨_, rfl⟩
                          obtain ⟨v870, c871⟩ : ∃ v, I847 a0 14 = v := ⟨_, rfl⟩
                          (try rw [c866] at ov864)
                          (try rw [c869] at ov864)
                          (try rw [c871] at ov864)
                          (try rw [c834] at ov864)
                          (try rw [c837] at ov864)
                          (try rw [c839] at ov864)
                          refine tr_istore dX12_readTurner_222 (by decide) (by decide) ?_
                          refine tr_goto 159 dX12_readTurner_224 (by decide) ?_
                          refine tr_iload dX12_readTurner_159 rfl ?_
                          refine q_if_eq 227 dX12_readTurner_161 (by decide) (fun h872 => ?_) (fun h872 => ?_)
                          · skip
                            refine tr_aload_n dX12_readTurner_227 hl415 ?_
                            refine q_getI dX12_readTurner_228 fl12_99 (kR15 hS856.1 ta0) c866 ?_
                            refine q_iconst dX12_readTurner_231 (by decide) ?_
                            intro v873 h874
                            refine q_icmp_ne 236 dX12_readTurner_232 (by decide) (fun h875 => ?_) (fun h875 => ?_)
                            · skip
                              exfalso; exact om_1fa3e129 ov864.1 h874 h875
                            · skip
                              have u876 : huF gB gQ 901 0 (tkN gB (tkN gB (tkN gB (tkN gB (tkN gB (tkN gB (tkN gB (tkN gB (tkN gB (tkN gB (tkN gB (tkN gB gs)))))))))))) = v868.toInt := by rw [← g449]; simp only [huF, ↓reduceIte]; exact om_749481c5 p36 w78 h481 h483 h485 p502 p503 p504 h535.2 h535.1 p536 h537 h787 p794 p795 p818 p817 b827.2 b827.1 ov832.1 ov832.2.1 p853 ov864.2.1 h872
                              have u876p : huP gB gQ 901 0 (tkN gB (tkN gB (tkN gB (tkN gB (tkN gB (tkN gB (tkN gB (tkN gB (tkN gB (tkN gB (tkN gB (tkN gB gs)))))))))))) = v870.toInt := by rw [← g450]; simp only [huP, ↓reduceIte]; exact om_6c21be8d g462 b472.2 b472.1 h535.2 h535.1 p536 h537 p794 p796 p818 p817 b827.2 b827.1 ov832.1 ov832.2.2 p853 ov864.2.2 h872
                              have eF := hF.eq
                              have eP := hP.eq
                              obtain ⟨v877, c878⟩ : ∃ v, I847 a0 10 = v := ⟨_, rfl⟩
                              have b879 := iv15_10 hS856.1 ta0 c878
                              obtain ⟨v880, c881⟩ : ∃ v, I847 a0 11 = v := ⟨_, rfl⟩
                              obtain ⟨y882, c883⟩ : ∃ v, L849 a0 15 = v := ⟨_, rfl⟩
                              obtain ⟨v884, c885⟩ : ∃ v, I847 a0 12 = v := ⟨_, rfl⟩
                              exact tr_vret hZ dX12_readTurner_235 rfl (by decide) (by decide) (hq _ _ _ ⟨hS856, (fun b hb => (Option.some.inj (d2.symm.trans hb)) ▸ (((((FrM.ro rw467).st g489 (by decide +kernel)).st g791 (by decide +kernel)).st g815 (by decide +kernel)).st g850 (by decide +kernel))), (fun dr hd => (Option.some.inj (d2.symm.trans hd)) ▸ hO863), (Or.inr (⟨(by (try rw [w76]); first | done | with_reducible assumption | exact om_9fcd6f32 h787 p795 ov832.2.1 ov864.2.1 u876 eF), (by (try rw [w76]); (try rw [c866]); first | done | with_reducible assumption | exact om_394b70a2 ov864.1), (by (try rw [w76]); (try rw [c869]); first | done | with_reducible assumption | exact om_1cf9e25c h787 p795 ov832.2.1 ov864.2.1 u876 eF), (by (try rw [w76]); (try rw [c871]); first | done | with_reducible assumption | exact om_9c29206b u876p eP), trivial⟩)), trivial⟩)
                          · skip
                            exfalso; exact om_1952d64c ov832.1 h852.2 h852.1 p853 h872
                      · skip
                        obtain ⟨v886, c887⟩ : ∃ v, I486 a0 9 = v := ⟨_, rfl⟩
                        have b888 := iv15_9 hS494.1 ta0 c887
                        rw [c887] at p515
                        obtain ⟨v889, c890⟩ : ∃ v, I486 a0 13 = v := ⟨_, rfl⟩
                        rw [c890] at p516
                        obtain ⟨v891, c892⟩ : ∃ v, I486 a0 14 = v := ⟨_, rfl⟩
                        rw [c892] at p517
                        refine tr_istore dX12_readTurner_186 (by decide) (by decide) ?_
                        refine tr_iload dX12_readTurner_188 hl422 ?_
                        refine tr_iload dX12_readTurner_190 rfl ?_
                        refine q_callSi hE (M' := mX12_has) (as := [_, _]) dX12_readTurner_192 lk12_329 inX12_has myX12_has ⟨by decide, by decide⟩ rfl (Nat.le_of_ble_eq_true rfl) rfl rfl (by decide) (by decide) (k_X12_has hS494.1 ) ?_
                        rintro v897 cn' K' N' I893 R894 L895 ⟨rfl, rfl, rfl, rfl, rfl, rfl, h898, -⟩
                        refine q_if_eq 203 dX12_readTurner_195 (by decide) (fun h899 => ?_) (fun h899 => ?_)
                        · skip
                          refine tr_aload_n dX12_readTurner_203 hl415 ?_
                          refine q_callVv hE (M' := mX12_goesOn) (as := []) dX12_readTurner_204 lk12_142 inX12_goesOn seX12_goesOn myX12_goesOn (by decide) ⟨by decide, by decide⟩ rfl (kR15 hS494.1 ta0) (Nat.le_of_ble_eq_true rfl) rfl rfl (by decide) (by decide) (k_X12_goesOn hS494.1 ta0) ?_
                          rintro cn' K' N' I900 R901 L902 ⟨rfl, rfl, rfl, rfl, g903, p905, p906, p907, w908, -⟩
                          have hS909 := hS494.tr g903 (by decide +kernel) (by decide +kernel)
                          have c910 : I900 a1 4 = v435 := (g903.cell ta1 (by decide +kernel)).trans c495
                          have c911 : I900 a0 13 = v889 := (g903.cell ta0 (by decide +kernel)).trans c890
                          have c912 : I900 a0 14 = v891 := (g903.cell ta0 (by decide +kernel)).trans c892
                          obtain ⟨v913, c914⟩ : ∃ v, I900 a0 9 = v := ⟨_, rfl⟩
                          have b915 := iv15_9 hS909.1 ta0 c914
                          rw [c887] at p905
                          rw [c914] at p905
                          rw [c887] at p906
                          rw [c914] at p906
                          obtain ⟨v916, c917⟩ : ∃ v, I900 a0 8 = v := ⟨_, rfl⟩
                          have b918 := iv15_8 hS909.1 ta0 c917
                          rw [c917] at p907
                          rw [c499] at p907
                          rw [c911] at p907
                          rw [c890] at p907
                          have hO919 : FrO 14 a1 T I0 I900 := hO500.st g903 (by decide +kernel)
                          have ov920 := w908.over (by rw [c887]; exact om_394b70a2 p515)
                          obtain ⟨v921, c922⟩ : ∃ v, I900 a0 9 = v := ⟨_, rfl⟩
                          have b923 := iv15_9 hS909.1 ta0 c922
                          obtain ⟨v924, c925⟩ : ∃ v, I900 a0 13 = v := ⟨_, rfl⟩
                          obtain ⟨v926, c927⟩ : ∃ v, I900 a0 14 = v := ⟨_, rfl⟩
                          (try rw [c922] at ov920)
                          (try rw [c925] at ov920)
                          (try rw [c927] at ov920)
                          (try rw [c887] at ov920)
                          (try rw [c890] at ov920)
                          (try rw [c892] at ov920)
                          refine tr_iload dX12_readTurner_207 hl422 ?_
                          refine q_iconst dX12_readTurner_209 (by decide) ?_
                          intro v928 h929
                          refine tr_iload dX12_readTurner_210 rfl ?_
                          refine q_ishlE dX12_readTurner_212 (by exact om_ee8a1e2d h929) (by exact om_4b929144 b35.2 b35.1 p36 w78 h481 h483 h485 p513 p514 p515 p906 p905 b915.2 b915.1) ?_
                          intro v930 h931
                          refine q_ior dX12_readTurner_213 ?_
                          intro v932
                          refine tr_istore dX12_readTurner_214 (by decide) (by decide) ?_
                          refine tr_aload_n dX12_readTurner_216 hl415 ?_
                          refine q_bipush dX12_readTurner_217 (by decide +kernel) ?_
                          intro v933 h934
                          refine q_callVi hE (M' := mX12_eatsSign) (as := [_]) dX12_readTurner_219 lk12_221 inX12_eatsSign seX12_eatsSign myX12_eatsSign (by decide) ⟨by decide, by decide⟩ rfl (kR15 hS909.1 ta0) (Nat.le_of_ble_eq_true rfl) rfl rfl (by decide) (by decide) (k_X12_eatsSign hS909.1 ta0) ?_
                          rintro v939 cn' K' N' I935 R936 L937 ⟨rfl, rfl, rfl, rfl, g938, h940, p941, p942, w943, -⟩
                          have hS944 := hS909.tr g938 (by decide +kernel) (by decide +kernel)
                          have c945 : I935 a1 4 = v435 := (g938.cell ta1 (by decide +kernel)).trans c910
                          have c946 : I935 a0 13 = v924 := (g938.cell ta0 (by decide +kernel)).trans c925
                          have c947 : I935 a0 14 = v926 := (g938.cell ta0 (by decide +kernel)).trans c927
                          rw [c922] at p941
                          obtain ⟨v948, c949⟩ : ∃ v, I935 a0 8 = v := ⟨_, rfl⟩
                          have b950 := iv15_8 hS944.1 ta0 c949
                          rw [c949] at p942
                          rw [c917] at p942
                          have hO951 : FrO 14 a1 T I0 I935 := hO919.st g938 (by decide +kernel)
                          have ov952 := w943.over (by rw [c922]; exact om_394b70a2 ov920.1)
                          obtain ⟨v953, c954⟩ : ∃ v, I935 a0 9 = v := ⟨_, rfl⟩
                          have b955 := iv15_9 hS944.1 ta0 c954
                          obtain ⟨v956, c957⟩ : ∃ v, I935 a0 13 = v := ⟨_, rfl⟩
                          obtain ⟨v958, c959⟩ : ∃ v, I935 a0 14 = v := ⟨_, rfl⟩
                          (try rw [c954] at ov952)
                          (try rw [c957] at ov952)
                          (try rw [c959] at ov952)
                          (try rw [c922] at ov952)
                          (try rw [c925] at ov952)
                          (try rw [c927] at ov952)
                          refine tr_istore dX12_readTurner_222 (by decide) (by decide) ?_
                          refine tr_goto 159 dX12_readTurner_224 (by decide) ?_
                          refine tr_iload dX12_readTurner_159 rfl ?_
                          refine q_if_eq 227 dX12_readTurner_161 (by decide) (fun h960 => ?_) (fun h960 => ?_)
                          · skip
                            refine tr_aload_n dX12_readTurner_227 hl415 ?_
                            refine q_getI dX12_readTurner_228 fl12_99 (kR15 hS944.1 ta0) c954 ?_
                            refine q_iconst dX12_readTurner_231 (by decide) ?_
                            intro v961 h962
                            refine q_icmp_ne 236 dX12_readTurner_232 (by decide) (fun h963 => ?_) (fun h963 => ?_)
                            · skip
                              exfalso; exact om_1fa3e129 ov952.1 h962 h963
                            · skip
                              have u964 : huF gB gQ 901 0 (tkN gB (tkN gB (tkN gB (tkN gB (tkN gB (tkN gB (tkN gB (tkN gB (tkN gB (tkN gB (tkN gB (tkN gB gs)))))))))))) = v956.toInt := by rw [← g449]; simp only [huF, ↓reduceIte]; exact om_bedd6f3c p514 p516 ov920.2.1 ov952.2.1
                              have u964p : huP gB gQ 901 0 (tkN gB (tkN gB (tkN gB (tkN gB (tkN gB (tkN gB (tkN gB (tkN gB (tkN gB (tkN gB (tkN gB (tkN gB gs)))))))))))) = v958.toInt := by rw [← g450]; simp only [huP, ↓reduceIte]; exact om_1968a971 p514 p517 ov920.2.2 ov952.2.2
                              have eF := hF.eq
                              have eP := hP.eq
                              obtain ⟨v965, c966⟩ : ∃ v, I935 a0 10 = v := ⟨_, rfl⟩
                              have b967 := iv15_10 hS944.1 ta0 c966
                              obtain ⟨v968, c969⟩ : ∃ v, I935 a0 11 = v := ⟨_, rfl⟩
                              obtain ⟨y970, c971⟩ : ∃ v, L937 a0 15 = v := ⟨_, rfl⟩
                              obtain ⟨v972, c973⟩ : ∃ v, I935 a0 12 = v := ⟨_, rfl⟩
                              exact tr_vret hZ dX12_readTurner_235 rfl (by decide) (by decide) (hq _ _ _ ⟨hS944, (fun b hb => (Option.some.inj (d2.symm.trans hb)) ▸ ((((FrM.ro rw467).st g489 (by decide +kernel)).st g903 (by decide +kernel)).st g938 (by decide +kernel))), (fun dr hd => (Option.some.inj (d2.symm.trans hd)) ▸ hO951), (Or.inr (⟨(by (try rw [w76]); first | done | with_reducible assumption | exact om_5f6b9a9f p516 ov920.2.1 ov952.2.1 u964 eF), (by (try rw [w76]); (try rw [c954]); first | done | with_reducible assumption | exact om_394b70a2 ov952.1), (by (try rw [w76]); (try rw [c957]); first | done | with_reducible assumption | exact om_8293e3a5 p516 ov920.2.1 ov952.2.1 u964 eF), (by (try rw [w76]); (try rw [c959]); first | done | with_reducible assumption | exact om_9c29206b u964p eP), trivial⟩)), trivial⟩)
                          · skip
                            exfalso; exact om_1952d64c ov920.1 h940.2 h940.1 p941 h960
                        · skip
                          refine tr_aload_n dX12_readTurner_198 hl415 ?_
                          refine q_iconst dX12_readTurner_199 (by decide) ?_
                          intro v974 h975
                          refine q_callVv hE (M' := mX12_flaw) (as := [_]) dX12_readTurner_200 lk12_145 inX12_flaw seX12_flaw myX12_flaw (by decide) ⟨by decide, by decide⟩ rfl (kR15 hS494.1 ta0) (Nat.le_of_ble_eq_true rfl) rfl rfl (by decide) (by decide) (k_X12_flaw hS494.1 ta0 (by exact om_7e011daf h975)) ?_
                          rintro cn' K' N' I976 R977 L978 ⟨rfl, rfl, rfl, rfl, rfl, g979, p981, p982, w983, -⟩
                          have hS984 := hS494.tr g979 (by decide +kernel) (by decide +kernel)
                          have c985 : I976 a1 4 = v435 := (g979.cell ta1 (by decide +kernel)).trans c495
                          have c986 : I976 a0 10 = v439 := (g979.cell ta0 (by decide +kernel)).trans c496
                          have c987 : I976 a0 11 = v441 := (g979.cell ta0 (by decide +kernel)).trans c497
                          have c988 : I976 a0 12 = v445 := (g979.cell ta0 (by decide +kernel)).trans c498
                          have c989 : I976 a0 8 = v447 := (g979.cell ta0 (by decide +kernel)).trans c499
                          obtain ⟨v990, c991⟩ : ∃ v, I976 a0 9 = v := ⟨_, rfl⟩
                          have b992 := iv15_9 hS984.1 ta0 c991
                          rw [c991] at p981
                          rw [c989] at p982
                          rw [c499] at p982
                          have hO993 : FrO 14 a1 T I0 I976 := hO500.st g979 (by decide +kernel)
                          have ov994 := w983.over (by rw [c887]; exact om_394b70a2 p515)
                          obtain ⟨v995, c996⟩ : ∃ v, I976 a0 9 = v := ⟨_, rfl⟩
                          have b997 := iv15_9 hS984.1 ta0 c996
                          obtain ⟨v998, c999⟩ : ∃ v, I976 a0 13 = v := ⟨_, rfl⟩
                          obtain ⟨v1000, c1001⟩ : ∃ v, I976 a0 14 = v := ⟨_, rfl⟩
                          (try rw [c996] at ov994)
                          (try rw [c999] at ov994)
                          (try rw [c1001] at ov994)
                          (try rw [c887] at ov994)
                          (try rw [c890] at ov994)
                          (try rw [c892] at ov994)
                          refine tr_aload_n dX12_readTurner_203 hl415 ?_
                          refine q_callVv hE (M' := mX12_goesOn) (as := []) dX12_readTurner_204 lk12_142 inX12_goesOn seX12_goesOn myX12_goesOn (by decide) ⟨by decide, by decide⟩ rfl (kR15 hS984.1 ta0) (Nat.le_of_ble_eq_true rfl) rfl rfl (by decide) (by decide) (k_X12_goesOn hS984.1 ta0) ?_
                          rintro cn' K' N' I1002 R1003 L1004 ⟨rfl, rfl, rfl, rfl, g1005, p1007, p1008, p1009, w1010, -⟩
                          have hS1011 := hS984.tr g1005 (by decide +kernel) (by decide +kernel)
                          have c1012 : I1002 a1 4 = v435 := (g1005.cell ta1 (by decide +kernel)).trans c985
                          have c1013 : I1002 a0 13 = v998 := (g1005.cell ta0 (by decide +kernel)).trans c999
                          have c1014 : I1002 a0 14 = v1000 := (g1005.cell ta0 (by decide +kernel)).trans c1001
                          obtain ⟨v1015, c1016⟩ : ∃ v, I1002 a0 9 = v := ⟨_, rfl⟩
                          have b1017 := iv15_9 hS1011.1 ta0 c1016
                          rw [c996] at p1007
                          rw [c1016] at p1007
                          rw [c996] at p1008
                          rw [c1016] at p1008
                          obtain ⟨v1018, c1019⟩ : ∃ v, I1002 a0 8 = v := ⟨_, rfl⟩
                          have b1020 := iv15_8 hS1011.1 ta0 c1019
                          rw [c1019] at p1009
                          rw [c989] at p1009
                          rw [c1013] at p1009
                          rw [c999] at p1009
                          have hO1021 : FrO 14 a1 T I0 I1002 := hO993.st g1005 (by decide +kernel)
                          have ov1022 := w1010.over (by rw [c996]; exact om_394b70a2 ov994.1)
                          obtain ⟨v1023, c1024⟩ : ∃ v, I1002 a0 9 = v := ⟨_, rfl⟩
                          have b1025 := iv15_9 hS1011.1 ta0 c1024
                          obtain ⟨v1026, c1027⟩ : ∃ v, I1002 a0 13 = v := ⟨_, rfl⟩
                          obtain ⟨v1028, c1029⟩ : ∃ v, I1002 a0 14 = v := ⟨_, rfl⟩
                          (try rw [c1024] at ov1022)
                          (try rw [c1027] at ov1022)
                          (try rw [c1029] at ov1022)
                          (try rw [c996] at ov1022)
                          (try rw [c999] at ov1022)
                          (try rw [c1001] at ov1022)
                          refine tr_iload dX12_readTurner_207 hl422 ?_
                          refine q_iconst dX12_readTurner_209 (by decide) ?_
                          intro v1030 h1031
                          refine tr_iload dX12_readTurner_210 rfl ?_
                          refine q_ishlE dX12_readTurner_212 (by exact om_ee8a1e2d h1031) (by exact om_4d060472 b35.2 b35.1 p36 w78 h481 h483 h485 p513 p514 h898.2 h898.1 h899 ov994.1 p1008 p1007 b1017.2 b1017.1) ?_
                          intro v1032 h1033
                          refine q_ior dX12_readTurner_213 ?_
                          intro v1034
                          refine tr_istore dX12_readTurner_214 (by decide) (by decide) ?_
                          refine tr_aload_n dX12_readTurner_216 hl415 ?_
                          refine q_bipush dX12_readTurner_217 (by decide +kernel) ?_
                          intro v1035 h1036
                          refine q_callVi hE (M' := mX12_eatsSign) (as := [_]) dX12_readTurner_219 lk12_221 inX12_eatsSign seX12_eatsSign myX12_eatsSign (by decide) ⟨by decide, by decide⟩ rfl (kR15 hS1011.1 ta0) (Nat.le_of_ble_eq_true rfl) rfl rfl (by decide) (by decide) (k_X12_eatsSign hS1011.1 ta0) ?_
                          rintro v1041 cn' K' N' I1037 R1038 L1039 ⟨rfl, rfl, rfl, rfl, g1040, h1042, p1043, p1044, w1045, -⟩
                          have hS1046 := hS1011.tr g1040 (by decide +kernel) (by decide +kernel)
                          have c1047 : I1037 a1 4 = v435 := (g1040.cell ta1 (by decide +kernel)).trans c1012
                          have c1048 : I1037 a0 13 = v1026 := (g1040.cell ta0 (by decide +kernel)).trans c1027
                          have c1049 : I1037 a0 14 = v1028 := (g1040.cell ta0 (by decide +kernel)).trans c1029
                          rw [c1024] at p1043
                          obtain ⟨v1050, c1051⟩ : ∃ v, I1037 a0 8 = v := ⟨_, rfl⟩
                          have b1052 := iv15_8 hS1046.1 ta0 c1051
                          rw [c1051] at p1044
                          rw [c1019] at p1044
                          have hO1053 : FrO 14 a1 T I0 I1037 := hO1021.st g1040 (by decide +kernel)
                          have ov1054 := w1045.over (by rw [c1024]; exact om_394b70a2 ov1022.1)
                          obtain ⟨v1055, c1056⟩ : ∃ v, I1037 a0 9 = v := ⟨_, rfl⟩
                          have b1057 := iv15_9 hS1046.1 ta0 c1056
                          obtain ⟨v1058, c1059⟩ : ∃ v, I1037 a0 13 = v := ⟨_, rfl⟩
                          obtain ⟨v1060, c1061⟩ : ∃ v, I1037 a0 14 = v := ⟨_, rfl⟩
                          (try rw [c1056] at ov1054)
                          (try rw [c1059] at ov1054)
                          (try rw [c1061] at ov1054)
                          (try rw [c1024] at ov1054)
                          (try rw [c1027] at ov1054)
                          (try rw [c1029] at ov1054)
                          refine tr_istore dX12_readTurner_222 (by decide) (by decide) ?_
                          refine tr_goto 159 dX12_readTurner_224 (by decide) ?_
                          refine tr_iload dX12_readTurner_159 rfl ?_
                          refine q_if_eq 227 dX12_readTurner_161 (by decide) (fun h1062 => ?_) (fun h1062 => ?_)
                          · skip
                            refine tr_aload_n dX12_readTurner_227 hl415 ?_
                            refine q_getI dX12_readTurner_228 fl12_99 (kR15 hS1046.1 ta0) c1056 ?_
                            refine q_iconst dX12_readTurner_231 (by decide) ?_
                            intro v1063 h1064
                            refine q_icmp_ne 236 dX12_readTurner_232 (by decide) (fun h1065 => ?_) (fun h1065 => ?_)
                            · skip
                              exfalso; exact om_1fa3e129 ov1054.1 h1064 h1065
                            · skip
                              have u1066 : huF gB gQ 901 0 (tkN gB (tkN gB (tkN gB (tkN gB (tkN gB (tkN gB (tkN gB (tkN gB (tkN gB (tkN gB (tkN gB (tkN gB gs)))))))))))) = v1058.toInt := by rw [← g449]; simp only [huF, ↓reduceIte]; exact om_cf77d32d p514 p516 ov994.2.1 ov1022.2.1 ov1054.2.1
                              have u1066p : huP gB gQ 901 0 (tkN gB (tkN gB (tkN gB (tkN gB (tkN gB (tkN gB (tkN gB (tkN gB (tkN gB (tkN gB (tkN gB (tkN gB gs)))))))))))) = v1060.toInt := by rw [← g450]; simp only [huP, ↓reduceIte]; exact om_e6fd41d7 p514 p517 ov994.2.2 ov1022.2.2 ov1054.2.2
                              have eF := hF.eq
                              have eP := hP.eq
                              obtain ⟨v1067, c1068⟩ : ∃ v, I1037 a0 10 = v := ⟨_, rfl⟩
                              have b1069 := iv15_10 hS1046.1 ta0 c1068
                              obtain ⟨v1070, c1071⟩ : ∃ v, I1037 a0 11 = v := ⟨_, rfl⟩
                              obtain ⟨y1072, c1073⟩ : ∃ v, L1039 a0 15 = v := ⟨_, rfl⟩
                              obtain ⟨v1074, c1075⟩ : ∃ v, I1037 a0 12 = v := ⟨_, rfl⟩
                              exact tr_vret hZ dX12_readTurner_235 rfl (by decide) (by decide) (hq _ _ _ ⟨hS1046, (fun b hb => (Option.some.inj (d2.symm.trans hb)) ▸ (((((FrM.ro rw467).st g489 (by decide +kernel)).st g979 (by decide +kernel)).st g1005 (by decide +kernel)).st g1040 (by decide +kernel))), (fun dr hd => (Option.some.inj (d2.symm.trans hd)) ▸ hO1053), (Or.inr (⟨(by (try rw [w76]); first | done | with_reducible assumption | exact om_dbe14032 p516 ov994.2.1 ov1022.2.1 ov1054.2.1 u1066 eF), (by (try rw [w76]); (try rw [c1056]); first | done | with_reducible assumption | exact om_394b70a2 ov1054.1), (by (try rw [w76]); (try rw [c1059]); first | done | with_reducible assumption | exact om_db8d9faf p516 ov994.2.1 ov1022.2.1 ov1054.2.1 u1066 eF), (by (try rw [w76]); (try rw [c1061]); first | done | with_reducible assumption | exact om_9c29206b u1066p eP), trivial⟩)), trivial⟩)
                          · skip
                            exfalso; exact om_1952d64c ov1022.1 h1042.2 h1042.1 p1043 h1062
                      · skip
                        obtain ⟨v1076, c1077⟩ : ∃ v, I486 a0 9 = v := ⟨_, rfl⟩
                        have b1078 := iv15_9 hS494.1 ta0 c1077
                        rw [c1077] at p521
                        obtain ⟨v1079, c1080⟩ : ∃ v, I486 a0 13 = v := ⟨_, rfl⟩
                        rw [c1080] at p522
                        obtain ⟨v1081, c1082⟩ : ∃ v, I486 a0 14 = v := ⟨_, rfl⟩
                        rw [c1082] at p523
                        refine tr_istore dX12_readTurner_186 (by decide) (by decide) ?_
                        refine tr_iload dX12_readTurner_188 hl422 ?_
                        refine tr_iload dX12_readTurner_190 rfl ?_
                        refine q_callSi hE (M' := mX12_has) (as := [_, _]) dX12_readTurner_192 lk12_329 inX12_has myX12_has ⟨by decide, by decide⟩ rfl (Nat.le_of_ble_eq_true rfl) rfl rfl (by decide) (by decide) (k_X12_has hS494.1 ) ?_
                        rintro v1087 cn' K' N' I1083 R1084 L1085 ⟨rfl, rfl, rfl, rfl, rfl, rfl, h1088, -⟩
                        refine q_if_eq 203 dX12_readTurner_195 (by decide) (fun h1089 => ?_) (fun h1089 => ?_)
                        · skip
                          refine tr_aload_n dX12_readTurner_203 hl415 ?_
                          refine q_callVv hE (M' := mX12_goesOn) (as := []) dX12_readTurner_204 lk12_142 inX12_goesOn seX12_goesOn myX12_goesOn (by decide) ⟨by decide, by decide⟩ rfl (kR15 hS494.1 ta0) (Nat.le_of_ble_eq_true rfl) rfl rfl (by decide) (by decide) (k_X12_goesOn hS494.1 ta0) ?_
                          rintro cn' K' N' I1090 R1091 L1092 ⟨rfl, rfl, rfl, rfl, g1093, p1095, p1096, p1097, w1098, -⟩
                          have hS1099 := hS494.tr g1093 (by decide +kernel) (by decide +kernel)
                          have c1100 : I1090 a1 4 = v435 := (g1093.cell ta1 (by decide +kernel)).trans c495
                          have c1101 : I1090 a0 13 = v1079 := (g1093.cell ta0 (by decide +kernel)).trans c1080
                          have c1102 : I1090 a0 14 = v1081 := (g1093.cell ta0 (by decide +kernel)).trans c1082
                          obtain ⟨v1103, c1104⟩ : ∃ v, I1090 a0 9 = v := ⟨_, rfl⟩
                          have b1105 := iv15_9 hS1099.1 ta0 c1104
                          rw [c1077] at p1095
                          rw [c1104] at p1095
                          rw [c1077] at p1096
                          rw [c1104] at p1096
                          obtain ⟨v1106, c1107⟩ : ∃ v, I1090 a0 8 = v := ⟨_, rfl⟩
                          have b1108 := iv15_8 hS1099.1 ta0 c1107
                          rw [c1107] at p1097
                          rw [c499] at p1097
                          rw [c1101] at p1097
                          rw [c1080] at p1097
                          have hO1109 : FrO 14 a1 T I0 I1090 := hO500.st g1093 (by decide +kernel)
                          have ov1110 := w1098.over (by rw [c1077]; exact om_394b70a2 p521)
                          obtain ⟨v1111, c1112⟩ : ∃ v, I1090 a0 9 = v := ⟨_, rfl⟩
                          have b1113 := iv15_9 hS1099.1 ta0 c1112
                          obtain ⟨v1114, c1115⟩ : ∃ v, I1090 a0 13 = v := ⟨_, rfl⟩
                          obtain ⟨v1116, c1117⟩ : ∃ v, I1090 a0 14 = v := ⟨_, rfl⟩
                          (try rw [c1112] at ov1110)
                          (try rw [c1115] at ov1110)
                          (try rw [c1117] at ov1110)
                          (try rw [c1077] at ov1110)
                          (try rw [c1080] at ov1110)
                          (try rw [c1082] at ov1110)
                          refine tr_iload dX12_readTurner_207 hl422 ?_
                          refine q_iconst dX12_readTurner_209 (by decide) ?_
                          intro v1118 h1119
                          refine tr_iload dX12_readTurner_210 rfl ?_
                          refine q_ishlE dX12_readTurner_212 (by exact om_ee8a1e2d h1119) (by exact om_192f52f1 b35.2 b35.1 p36 w78 h481 h483 h485 p518 p520 p521 p1096 p1095 b1105.2 b1105.1) ?_
                          intro v1120 h1121
                          refine q_ior dX12_readTurner_213 ?_
                          intro v1122
                          refine tr_istore dX12_readTurner_214 (by decide) (by decide) ?_
                          refine tr_aload_n dX12_readTurner_216 hl415 ?_
                          refine q_bipush dX12_readTurner_217 (by decide +kernel) ?_
                          intro v1123 h1124
                          refine q_callVi hE (M' := mX12_eatsSign) (as := [_]) dX12_readTurner_219 lk12_221 inX12_eatsSign seX12_eatsSign myX12_eatsSign (by decide) ⟨by decide, by decide⟩ rfl (kR15 hS1099.1 ta0) (Nat.le_of_ble_eq_true rfl) rfl rfl (by decide) (by decide) (k_X12_eatsSign hS1099.1 ta0) ?_
                          rintro v1129 cn' K' N' I1125 R1126 L1127 ⟨rfl, rfl, rfl, rfl, g1128, h1130, p1131, p1132, w1133, -⟩
                          have hS1134 := hS1099.tr g1128 (by decide +kernel) (by decide +kernel)
                          have c1135 : I1125 a1 4 = v435 := (g1128.cell ta1 (by decide +kernel)).trans c1100
                          have c1136 : I1125 a0 13 = v1114 := (g1128.cell ta0 (by decide +kernel)).trans c1115
                          have c1137 : I1125 a0 14 = v1116 := (g1128.cell ta0 (by decide +kernel)).trans c1117
                          rw [c1112] at p1131
                          obtain ⟨v1138, c1139⟩ : ∃ v, I1125 a0 8 = v := ⟨_, rfl⟩
                          have b1140 := iv15_8 hS1134.1 ta0 c1139
                          rw [c1139] at p1132
                          rw [c1107] at p1132
                          have hO1141 : FrO 14 a1 T I0 I1125 := hO1109.st g1128 (by decide +kernel)
                          have ov1142 := w1133.over (by rw [c1112]; exact om_394b70a2 ov1110.1)
                          obtain ⟨v1143, c1144⟩ : ∃ v, I1125 a0 9 = v := ⟨_, rfl⟩
                          have b1145 := iv15_9 hS1134.1 ta0 c1144
                          obtain ⟨v1146, c1147⟩ : ∃ v, I1125 a0 13 = v := ⟨_, rfl⟩
                          obtain ⟨v1148, c1149⟩ : ∃ v, I1125 a0 14 = v := ⟨_, rfl⟩
                          (try rw [c1144] at ov1142)
                          (try rw [c1147] at ov1142)
                          (try rw [c1149] at ov1142)
                          (try rw [c1112] at ov1142)
                          (try rw [c1115] at ov1142)
                          (try rw [c1117] at ov1142)
                          refine tr_istore dX12_readTurner_222 (by decide) (by decide) ?_
                          refine tr_goto 159 dX12_readTurner_224 (by decide) ?_
                          refine tr_iload dX12_readTurner_159 rfl ?_
                          refine q_if_eq 227 dX12_readTurner_161 (by decide) (fun h1150 => ?_) (fun h1150 => ?_)
                          · skip
                            refine tr_aload_n dX12_readTurner_227 hl415 ?_
                            refine q_getI dX12_readTurner_228 fl12_99 (kR15 hS1134.1 ta0) c1144 ?_
                            refine q_iconst dX12_readTurner_231 (by decide) ?_
                            intro v1151 h1152
                            refine q_icmp_ne 236 dX12_readTurner_232 (by decide) (fun h1153 => ?_) (fun h1153 => ?_)
                            · skip
                              exfalso; exact om_1fa3e129 ov1142.1 h1152 h1153
                            · skip
                              have u1154 : huF gB gQ 901 0 (tkN gB (tkN gB (tkN gB (tkN gB (tkN gB (tkN gB (tkN gB (tkN gB (tkN gB (tkN gB (tkN gB (tkN gB gs)))))))))))) = v1146.toInt := by rw [← g449]; simp only [huF, ↓reduceIte]; exact om_61f48836 p36 w78 h481 h483 h485 p519 p520 p521 p522 p1096 p1095 b1105.2 b1105.1 ov1110.1 ov1110.2.1 p1131 ov1142.2.1 h1150
                              have u1154p : huP gB gQ 901 0 (tkN gB (tkN gB (tkN gB (tkN gB (tkN gB (tkN gB (tkN gB (tkN gB (tkN gB (tkN gB (tkN gB (tkN gB gs)))))))))))) = v1148.toInt := by rw [← g450]; simp only [huP, ↓reduceIte]; exact om_13a8c0f8 p36 w78 g462 b472.2 b472.1 h481 h483 h485 p520 p521 p523 p1096 p1095 b1105.2 b1105.1 ov1110.1 ov1110.2.2 p1131 ov1142.2.2 h1150
                              have eF := hF.eq
                              have eP := hP.eq
                              obtain ⟨v1155, c1156⟩ : ∃ v, I1125 a0 10 = v := ⟨_, rfl⟩
                              have b1157 := iv15_10 hS1134.1 ta0 c1156
                              obtain ⟨v1158, c1159⟩ : ∃ v, I1125 a0 11 = v := ⟨_, rfl⟩
                              obtain ⟨y1160, c1161⟩ : ∃ v, L1127 a0 15 = v := ⟨_, rfl⟩
                              obtain ⟨v1162, c1163⟩ : ∃ v, I1125 a0 12 = v := ⟨_, rfl⟩
                              exact tr_vret hZ dX12_readTurner_235 rfl (by decide) (by decide) (hq _ _ _ ⟨hS1134, (fun b hb => (Option.some.inj (d2.symm.trans hb)) ▸ ((((FrM.ro rw467).st g489 (by decide +kernel)).st g1093 (by decide +kernel)).st g1128 (by decide +kernel))), (fun dr hd => (Option.some.inj (d2.symm.trans hd)) ▸ hO1141), (Or.inr (⟨(by (try rw [w76]); first | done | with_reducible assumption | exact om_914696b7 p522 ov1110.2.1 ov1142.2.1 u1154 eF), (by (try rw [w76]); (try rw [c1144]); first | done | with_reducible assumption | exact om_394b70a2 ov1142.1), (by (try rw [w76]); (try rw [c1147]); first | done | with_reducible assumption | exact om_e65b3146 p522 ov1110.2.1 ov1142.2.1 u1154 eF), (by (try rw [w76]); (try rw [c1149]); first | done | with_reducible assumption | exact om_9c29206b u1154p eP), trivial⟩)), trivial⟩)
                          · skip
                            exfalso; exact om_1952d64c ov1110.1 h1130.2 h1130.1 p1131 h1150
                        · skip
                          refine tr_aload_n dX12_readTurner_198 hl415 ?_
                          refine q_iconst dX12_readTurner_199 (by decide) ?_
                          intro v1164 h1165
                          refine q_callVv hE (M' := mX12_flaw) (as := [_]) dX12_readTurner_200 lk12_145 inX12_flaw seX12_flaw myX12_flaw (by decide) ⟨by decide, by decide⟩ rfl (kR15 hS494.1 ta0) (Nat.le_of_ble_eq_true rfl) rfl rfl (by decide) (by decide) (k_X12_flaw hS494.1 ta0 (by exact om_7e011daf h1165)) ?_
                          rintro cn' K' N' I1166 R1167 L1168 ⟨rfl, rfl, rfl, rfl, rfl, g1169, p1171, p1172, w1173, -⟩
                          have hS1174 := hS494.tr g1169 (by decide +kernel) (by decide +kernel)
                          have c1175 : I1166 a1 4 = v435 := (g1169.cell ta1 (by decide +kernel)).trans c495
                          have c1176 : I1166 a0 10 = v439 := (g1169.cell ta0 (by decide +kernel)).trans c496
                          have c1177 : I1166 a0 11 = v441 := (g1169.cell ta0 (by decide +kernel)).trans c497
                          have c1178 : I1166 a0 12 = v445 := (g1169.cell ta0 (by decide +kernel)).trans c498
                          have c1179 : I1166 a0 8 = v447 := (g1169.cell ta0 (by decide +kernel)).trans c499
                          obtain ⟨v1180, c1181⟩ : ∃ v, I1166 a0 9 = v := ⟨_, rfl⟩
                          have b1182 := iv15_9 hS1174.1 ta0 c1181
                          rw [c1181] at p1171
                          rw [c1179] at p1172
                          rw [c499] at p1172
                          have hO1183 : FrO 14 a1 T I0 I1166 := hO500.st g1169 (by decide +kernel)
                          have ov1184 := w1173.over (by rw [c1077]; exact om_394b70a2 p521)
                          obtain ⟨v1185, c1186⟩ : ∃ v, I1166 a0 9 = v := ⟨_, rfl⟩
                          have b1187 := iv15_9 hS1174.1 ta0 c1186
                          obtain ⟨v1188, c1189⟩ : ∃ v, I1166 a0 13 = v := ⟨_, rfl⟩
                          obtain ⟨v1190, c1191⟩ : ∃ v, I1166 a0 14 = v := ⟨_, rfl⟩
                          (try rw [c1186] at ov1184)
                          (try rw [c1189] at ov1184)
                          (try rw [c1191] at ov1184)
                          (try rw [c1077] at ov1184)
                          (try rw [c1080] at ov1184)
                          (try rw [c1082] at ov1184)
                          refine tr_aload_n dX12_readTurner_203 hl415 ?_
                          refine q_callVv hE (M' := mX12_goesOn) (as := []) dX12_readTurner_204 lk12_142 inX12_goesOn seX12_goesOn myX12_goesOn (by decide) ⟨by decide, by decide⟩ rfl (kR15 hS1174.1 ta0) (Nat.le_of_ble_eq_true rfl) rfl rfl (by decide) (by decide) (k_X12_goesOn hS1174.1 ta0) ?_
                          rintro cn' K' N' I1192 R1193 L1194 ⟨rfl, rfl, rfl, rfl, g1195, p1197, p1198, p1199, w1200, -⟩
                          have hS1201 := hS1174.tr g1195 (by decide +kernel) (by decide +kernel)
                          have c1202 : I1192 a1 4 = v435 := (g1195.cell ta1 (by decide +kernel)).trans c1175
                          have c1203 : I1192 a0 13 = v1188 := (g1195.cell ta0 (by decide +kernel)).trans c1189
                          have c1204 : I1192 a0 14 = v1190 := (g1195.cell ta0 (by decide +kernel)).trans c1191
                          obtain ⟨v1205, c1206⟩ : ∃ v, I1192 a0 9 = v := ⟨_, rfl⟩
                          have b1207 := iv15_9 hS1201.1 ta0 c1206
                          rw [c1186] at p1197
                          rw [c1206] at p1197
                          rw [c1186] at p1198
                          rw [c1206] at p1198
                          obtain ⟨v1208, c1209⟩ : ∃ v, I1192 a0 8 = v := ⟨_, rfl⟩
                          have b1210 := iv15_8 hS1201.1 ta0 c1209
                          rw [c1209] at p1199
                          rw [c1179] at p1199
                          rw [c1203] at p1199
                          rw [c1189] at p1199
                          have hO1211 : FrO 14 a1 T I0 I1192 := hO1183.st g1195 (by decide +kernel)
                          have ov1212 := w1200.over (by rw [c1186]; exact om_394b70a2 ov1184.1)
                          obtain ⟨v1213, c1214⟩ : ∃ v, I1192 a0 9 = v := ⟨_, rfl⟩
                          have b1215 := iv15_9 hS1201.1 ta0 c1214
                          obtain ⟨v1216, c1217⟩ : ∃ v, I1192 a0 13 = v := ⟨_, rfl⟩
                          obtain ⟨v1218, c1219⟩ : ∃ v, I1192 a0 14 = v := ⟨_, rfl⟩
                          (try rw [c1214] at ov1212)
                          (try rw [c1217] at ov1212)
                          (try rw [c1219] at ov1212)
                          (try rw [c1186] at ov1212)
                          (try rw [c1189] at ov1212)
                          (try rw [c1191] at ov1212)
                          refine tr_iload dX12_readTurner_207 hl422 ?_
                          refine q_iconst dX12_readTurner_209 (by decide) ?_
                          intro v1220 h1221
                          refine tr_iload dX12_readTurner_210 rfl ?_
                          refine q_ishlE dX12_readTurner_212 (by exact om_ee8a1e2d h1221) (by exact om_420d6f03 b35.2 b35.1 p36 w78 h481 h483 h485 p518 p520 h1088.2 h1088.1 h1089 ov1184.1 p1198 p1197 b1207.2 b1207.1) ?_
                          intro v1222 h1223
                          refine q_ior dX12_readTurner_213 ?_
                          intro v1224
                          refine tr_istore dX12_readTurner_214 (by decide) (by decide) ?_
                          refine tr_aload_n dX12_readTurner_216 hl415 ?_
                          refine q_bipush dX12_readTurner_217 (by decide +kernel) ?_
                          intro v1225 h1226
                          refine q_callVi hE (M' := mX12_eatsSign) (as := [_]) dX12_readTurner_219 lk12_221 inX12_eatsSign seX12_eatsSign myX12_eatsSign (by decide) ⟨by decide, by decide⟩ rfl (kR15 hS1201.1 ta0) (Nat.le_of_ble_eq_true rfl) rfl rfl (by decide) (by decide) (k_X12_eatsSign hS1201.1 ta0) ?_
                          rintro v1231 cn' K' N' I1227 R1228 L1229 ⟨rfl, rfl, rfl, rfl, g1230, h1232, p1233, p1234, w1235, -⟩
                          have hS1236 := hS1201.tr g1230 (by decide +kernel) (by decide +kernel)
                          have c1237 : I1227 a1 4 = v435 := (g1230.cell ta1 (by decide +kernel)).trans c1202
                          have c1238 : I1227 a0 13 = v1216 := (g1230.cell ta0 (by decide +kernel)).trans c1217
                          have c1239 : I1227 a0 14 = v1218 := (g1230.cell ta0 (by decide +kernel)).trans c1219
                          rw [c1214] at p1233
                          obtain ⟨v1240, c1241⟩ : ∃ v, I1227 a0 8 = v := ⟨_, rfl⟩
                          have b1242 := iv15_8 hS1236.1 ta0 c1241
                          rw [c1241] at p1234
                          rw [c1209] at p1234
                          have hO1243 : FrO 14 a1 T I0 I1227 := hO1211.st g1230 (by decide +kernel)
                          have ov1244 := w1235.over (by rw [c1214]; exact om_394b70a2 ov1212.1)
                          obtain ⟨v1245, c1246⟩ : ∃ v, I1227 a0 9 = v := ⟨_, rfl⟩
                          have b1247 := iv15_9 hS1236.1 ta0 c1246
                          obtain ⟨v1248, c1249⟩ : ∃ v, I1227 a0 13 = v := ⟨_, rfl⟩
                          obtain ⟨v1250, c1251⟩ : ∃ v, I1227 a0 14 = v := ⟨_, rfl⟩
                          (try rw [c1246] at ov1244)
                          (try rw [c1249] at ov1244)
                          (try rw [c1251] at ov1244)
                          (try rw [c1214] at ov1244)
                          (try rw [c1217] at ov1244)
                          (try rw [c1219] at ov1244)
                          refine tr_istore dX12_readTurner_222 (by decide) (by decide) ?_
                          refine tr_goto 159 dX12_readTurner_224 (by decide) ?_
                          refine tr_iload dX12_readTurner_159 rfl ?_
                          refine q_if_eq 227 dX12_readTurner_161 (by decide) (fun h1252 => ?_) (fun h1252 => ?_)
                          · skip
                            refine tr_aload_n dX12_readTurner_227 hl415 ?_
                            refine q_getI dX12_readTurner_228 fl12_99 (kR15 hS1236.1 ta0) c1246 ?_
                            refine q_iconst dX12_readTurner_231 (by decide) ?_
                            intro v1253 h1254
                            refine q_icmp_ne 236 dX12_readTurner_232 (by decide) (fun h1255 => ?_) (fun h1255 => ?_)
                            · skip
                              exfalso; exact om_1fa3e129 ov1244.1 h1254 h1255
                            · skip
                              have u1256 : huF gB gQ 901 0 (tkN gB (tkN gB (tkN gB (tkN gB (tkN gB (tkN gB (tkN gB (tkN gB (tkN gB (tkN gB (tkN gB (tkN gB gs)))))))))))) = v1248.toInt := by rw [← g449]; simp only [huF, ↓reduceIte]; exact om_95a84672 p36 w78 h481 h483 h485 p519 p520 p522 h1088.2 h1088.1 h1089 ov1184.1 ov1184.2.1 p1198 p1197 b1207.2 b1207.1 ov1212.1 ov1212.2.1 p1233 ov1244.2.1 h1252
                              have u1256p : huP gB gQ 901 0 (tkN gB (tkN gB (tkN gB (tkN gB (tkN gB (tkN gB (tkN gB (tkN gB (tkN gB (tkN gB (tkN gB (tkN gB gs)))))))))))) = v1250.toInt := by rw [← g450]; simp only [huP, ↓reduceIte]; exact om_5e85b86c p36 w78 g462 b472.2 b472.1 h481 h483 h485 p520 p523 h1088.2 h1088.1 h1089 ov1184.1 ov1184.2.2 p1198 p1197 b1207.2 b1207.1 ov1212.1 ov1212.2.2 p1233 ov1244.2.2 h1252
                              have eF := hF.eq
                              have eP := hP.eq
                              obtain ⟨v1257, c1258⟩ : ∃ v, I1227 a0 10 = v := ⟨_, rfl⟩
                              have b1259 := iv15_10 hS1236.1 ta0 c1258
                              obtain ⟨v1260, c1261⟩ : ∃ v, I1227 a0 11 = v := ⟨_, rfl⟩
                              obtain ⟨y1262, c1263⟩ : ∃ v, L1229 a0 15 = v := ⟨_, rfl⟩
                              obtain ⟨v1264, c1265⟩ : ∃ v, I1227 a0 12 = v := ⟨_, rfl⟩
                              exact tr_vret hZ dX12_readTurner_235 rfl (by decide) (by decide) (hq _ _ _ ⟨hS1236, (fun b hb => (Option.some.inj (d2.symm.trans hb)) ▸ (((((FrM.ro rw467).st g489 (by decide +kernel)).st g1169 (by decide +kernel)).st g1195 (by decide +kernel)).st g1230 (by decide +kernel))), (fun dr hd => (Option.some.inj (d2.symm.trans hd)) ▸ hO1243), (Or.inr (⟨(by (try rw [w76]); first | done | with_reducible assumption | exact om_1968f7bb p522 ov1184.2.1 ov1212.2.1 ov1244.2.1 u1256 eF), (by (try rw [w76]); (try rw [c1246]); first | done | with_reducible assumption | exact om_394b70a2 ov1244.1), (by (try rw [w76]); (try rw [c1249]); first | done | with_reducible assumption | exact om_6d0ba9c8 p522 ov1184.2.1 ov1212.2.1 ov1244.2.1 u1256 eF), (by (try rw [w76]); (try rw [c1251]); first | done | with_reducible assumption | exact om_9c29206b u1256p eP), trivial⟩)), trivial⟩)
                          · skip
                            exfalso; exact om_1952d64c ov1212.1 h1232.2 h1232.1 p1233 h1252
            exact lp468 _ _ v409 v411 I364 L366 ((tkN gB (tkN gB (tkN gB (tkN gB (tkN gB (tkN gB (tkN gB (tkN gB (tkN gB (tkN gB (tkN gB (tkN gB gs))))))))))))) (901) (0) v392 v45 v394 v397 v400 y402 v404 v406 hl0 hl1 hl3 rfl rfl rfl rfl rfl rfl hS372 hL390 hM391 hO374 c393 c373 c395 c398 c401 c403 c405 c407 (by first | rfl | (congr 1; omega) | (congr 2 <;> omega)) (by first | rfl | (congr 1; omega) | (congr 2 <;> omega)) (by first | rfl | (congr 1; omega) | (congr 2 <;> omega)) (by first | rfl | (congr 1; omega) | (congr 2 <;> omega)) (by exact om_acd7a85a p48) (by exact om_ee8a1e2d h412) (by exact om_29f55913 h410) (by exact om_46b0a402) (by exact om_366b5763) (by exact om_ecff893b p380 b399.2 b399.1) (by exact om_26539cac p109 p178 p247 p316 p377) (by exact om_acd7a85a p378) (by exact om_fc4b6669 p379) (by exact om_acd7a85a p380) (by exact om_acd7a85a p381) (by assumption) (by assumption) (by assumption) ((((((RoF.rf (ex := rdm) (T := T)).tr (RoF.st g95 (by decide +kernel))).tr (RoF.st g164 (by decide +kernel))).tr (RoF.st g233 (by decide +kernel))).tr (RoF.st g302 (by decide +kernel))).tr (RoF.st g367 (by decide +kernel))) (Nat.lt_succ_self _)
          · skip
            obtain ⟨v1266, c1267⟩ : ∃ v, I364 a0 9 = v := ⟨_, rfl⟩
            have b1268 := iv15_9 hS372.1 ta0 c1267
            rw [c1267] at p387
            obtain ⟨v1269, c1270⟩ : ∃ v, I364 a0 13 = v := ⟨_, rfl⟩
            rw [c1270] at p388
            obtain ⟨v1271, c1272⟩ : ∃ v, I364 a0 14 = v := ⟨_, rfl⟩
            rw [c1272] at p389
            replace hF := hF.pos (by exact om_d9bcc258 p386)
            replace hP := hP.pos (by exact om_d9bcc258 p386)
            refine q_iconst dX12_readTurner_153 (by decide) ?_
            intro v1273 h1274
            refine tr_istore dX12_readTurner_154 (by decide) (by decide) ?_
            refine q_iconst dX12_readTurner_156 (by decide) ?_
            intro v1275 h1276
            refine tr_istore dX12_readTurner_157 (by decide) (by decide) ?_
            refine tr_iload dX12_readTurner_159 rfl ?_
            refine q_if_eq 227 dX12_readTurner_161 (by decide) (fun h1277 => ?_) (fun h1277 => ?_)
            · skip
              exfalso; exact om_3624102b h1276 h1277
            · skip
              refine tr_aload_n dX12_readTurner_164 hl0 ?_
              refine q_getI dX12_readTurner_165 fl12_99 (kR15 hS372.1 ta0) c1267 ?_
              refine q_iconst dX12_readTurner_168 (by decide) ?_
              intro v1278 h1279
              refine q_icmp_eq 227 dX12_readTurner_169 (by decide) (fun h1280 => ?_) (fun h1280 => ?_)
              · skip
                refine tr_aload_n dX12_readTurner_227 hl0 ?_
                refine q_getI dX12_readTurner_228 fl12_99 (kR15 hS372.1 ta0) c1267 ?_
                refine q_iconst dX12_readTurner_231 (by decide) ?_
                intro v1281 h1282
                refine q_icmp_ne 236 dX12_readTurner_232 (by decide) (fun h1283 => ?_) (fun h1283 => ?_)
                · skip
                  exfalso; exact om_1fa3e129 p387 h1282 h1283
                · skip
                  have eF := hF.eq
                  have eP := hP.eq
                  obtain ⟨v1284, c1285⟩ : ∃ v, I364 a0 10 = v := ⟨_, rfl⟩
                  have b1286 := iv15_10 hS372.1 ta0 c1285
                  obtain ⟨v1287, c1288⟩ : ∃ v, I364 a0 11 = v := ⟨_, rfl⟩
                  obtain ⟨y1289, c1290⟩ : ∃ v, L366 a0 15 = v := ⟨_, rfl⟩
                  obtain ⟨v1291, c1292⟩ : ∃ v, I364 a0 12 = v := ⟨_, rfl⟩
                  obtain ⟨v1293, c1294⟩ : ∃ v, I364 a0 8 = v := ⟨_, rfl⟩
                  have b1295 := iv15_8 hS372.1 ta0 c1294
                  exact tr_vret hZ dX12_readTurner_235 rfl (by decide) (by decide) (hq _ _ _ ⟨hS372, (fun b hb => (Option.some.inj (d2.symm.trans hb)) ▸ ((((((FrM.rf (R := R0) (b := a1) (T := T)).st g95 (by decide +kernel)).st g164 (by decide +kernel)).st g233 (by decide +kernel)).st g302 (by decide +kernel)).st g367 (by decide +kernel))), (fun dr hd => (Option.some.inj (d2.symm.trans hd)) ▸ hO374), (Or.inr (⟨(by (try rw [w76]); first | done | with_reducible assumption | exact om_7fac24c5 eF), (by (try rw [w76]); (try rw [c1267]); first | done | with_reducible assumption | omega), (by (try rw [w76]); (try rw [c1270]); first | done | with_reducible assumption | exact om_3345b898 p388 eF), (by (try rw [w76]); (try rw [c1272]); first | done | with_reducible assumption | exact om_2757374c p389 eP), trivial⟩)), trivial⟩)
              · skip
                exfalso; exact om_1fa3e129 p387 h1279 h1280
        · skip
          obtain ⟨v1296, c1297⟩ : ∃ v, I299 a0 9 = v := ⟨_, rfl⟩
          have b1298 := iv15_9 hS307.1 ta0 c1297
          rw [c1297] at p327
          obtain ⟨v1299, c1300⟩ : ∃ v, I299 a0 13 = v := ⟨_, rfl⟩
          rw [c1300] at p328
          obtain ⟨v1301, c1302⟩ : ∃ v, I299 a0 14 = v := ⟨_, rfl⟩
          rw [c1302] at p329
          replace hF := hF.pos (by exact om_86ff7bc6 p326)
          replace hP := hP.pos (by exact om_86ff7bc6 p326)
          refine tr_istore dX12_readTurner_145 (by decide) (by decide) ?_
          refine sf_oT147 hE hZ hS307.1 (gB) ta0 (by (try rw [c1297]); first | done | with_reducible assumption | omega) ⟨_, d2⟩ hl0 hl1 hl3 rfl rfl rfl rfl ?_
          rintro I1303 R1304 L1305 ⟨g1306, p1307, p1308, p1309, rp1310, -⟩
          obtain rfl : R0 = R1304 := funext fun a => funext fun j => (g1306.2.2 a j (wm_no rfl)).symm
          have hS1311 := hS307.tr g1306 (by decide +kernel) (by decide +kernel)
          have c1312 : I1303 a1 4 = v45 := (g1306.cell ta1 (by decide +kernel)).trans c308
          have hO1313 : FrO 14 a1 T I0 I1303 := hO309.st g1306 (by decide +kernel)
          obtain ⟨v1314, c1315⟩ : ∃ v, I1303 a0 9 = v := ⟨_, rfl⟩
          have b1316 := iv15_9 hS1311.1 ta0 c1315
          rw [c1315] at p1307
          obtain ⟨v1317, c1318⟩ : ∃ v, I1303 a0 13 = v := ⟨_, rfl⟩
          rw [c1318] at p1308
          rw [c1300] at p1308
          obtain ⟨v1319, c1320⟩ : ∃ v, I1303 a0 14 = v := ⟨_, rfl⟩
          rw [c1320] at p1309
          rw [c1302] at p1309
          have eF := hF.eq
          have eP := hP.eq
          obtain ⟨v1321, c1322⟩ : ∃ v, I1303 a0 10 = v := ⟨_, rfl⟩
          have b1323 := iv15_10 hS1311.1 ta0 c1322
          obtain ⟨v1324, c1325⟩ : ∃ v, I1303 a0 11 = v := ⟨_, rfl⟩
          obtain ⟨y1326, c1327⟩ : ∃ v, L1305 a0 15 = v := ⟨_, rfl⟩
          obtain ⟨v1328, c1329⟩ : ∃ v, I1303 a0 12 = v := ⟨_, rfl⟩
          obtain ⟨v1330, c1331⟩ : ∃ v, I1303 a0 8 = v := ⟨_, rfl⟩
          have b1332 := iv15_8 hS1311.1 ta0 c1331
          exact hq _ _ _ ⟨hS1311, (fun b hb => (Option.some.inj (d2.symm.trans hb)) ▸ ((((((FrM.rf (R := R0) (b := a1) (T := T)).st g95 (by decide +kernel)).st g164 (by decide +kernel)).st g233 (by decide +kernel)).st g302 (by decide +kernel)).st g1306 (by decide +kernel))), (fun dr hd => (Option.some.inj (d2.symm.trans hd)) ▸ hO1313), (Or.inr (⟨(by first | done | with_reducible assumption | exact om_7fac24c5 eF), (by (try rw [c1315]); first | done | with_reducible assumption | omega), (by (try rw [c1318]); first | done | with_reducible assumption | exact om_9adad658 p328 p1308 eF), (by (try rw [c1320]); first | done | with_reducible assumption | exact om_3998a42e p329 p1309 eP), trivial⟩)), trivial⟩
        · skip
          obtain ⟨v1333, c1334⟩ : ∃ v, I299 a0 9 = v := ⟨_, rfl⟩
          have b1335 := iv15_9 hS307.1 ta0 c1334
          rw [c1334] at p334
          obtain ⟨v1336, c1337⟩ : ∃ v, I299 a0 13 = v := ⟨_, rfl⟩
          rw [c1337] at p335
          obtain ⟨v1338, c1339⟩ : ∃ v, I299 a0 14 = v := ⟨_, rfl⟩
          rw [c1339] at p336
          replace hF := hF.neg (by exact om_f8dd5453 p331 p332)
          replace hP := hP.neg (by exact om_f8dd5453 p331 p332)
          replace hF := hF.pos (by exact om_73cc8e29 p333)
          replace hP := hP.pos (by exact om_73cc8e29 p333)
          refine tr_istore dX12_readTurner_145 (by decide) (by decide) ?_
          refine sf_oT147 hE hZ hS307.1 (gB) ta0 (by (try rw [c1334]); first | done | with_reducible assumption | omega) ⟨_, d2⟩ hl0 hl1 hl3 rfl rfl rfl rfl ?_
          rintro I1340 R1341 L1342 ⟨g1343, p1344, p1345, p1346, rp1347, -⟩
          obtain rfl : R0 = R1341 := funext fun a => funext fun j => (g1343.2.2 a j (wm_no rfl)).symm
          have hS1348 := hS307.tr g1343 (by decide +kernel) (by decide +kernel)
          have c1349 : I1340 a1 4 = v45 := (g1343.cell ta1 (by decide +kernel)).trans c308
          have hO1350 : FrO 14 a1 T I0 I1340 := hO309.st g1343 (by decide +kernel)
          obtain ⟨v1351, c1352⟩ : ∃ v, I1340 a0 9 = v := ⟨_, rfl⟩
          have b1353 := iv15_9 hS1348.1 ta0 c1352
          rw [c1352] at p1344
          obtain ⟨v1354, c1355⟩ : ∃ v, I1340 a0 13 = v := ⟨_, rfl⟩
          rw [c1355] at p1345
          rw [c1337] at p1345
          obtain ⟨v1356, c1357⟩ : ∃ v, I1340 a0 14 = v := ⟨_, rfl⟩
          rw [c1357] at p1346
          rw [c1339] at p1346
          have eF := hF.eq
          have eP := hP.eq
          obtain ⟨v1358, c1359⟩ : ∃ v, I1340 a0 10 = v := ⟨_, rfl⟩
          have b1360 := iv15_10 hS1348.1 ta0 c1359
          obtain ⟨v1361, c1362⟩ : ∃ v, I1340 a0 11 = v := ⟨_, rfl⟩
          obtain ⟨y1363, c1364⟩ : ∃ v, L1342 a0 15 = v := ⟨_, rfl⟩
          obtain ⟨v1365, c1366⟩ : ∃ v, I1340 a0 12 = v := ⟨_, rfl⟩
          obtain ⟨v1367, c1368⟩ : ∃ v, I1340 a0 8 = v := ⟨_, rfl⟩
          have b1369 := iv15_8 hS1348.1 ta0 c1368
          exact hq _ _ _ ⟨hS1348, (fun b hb => (Option.some.inj (d2.symm.trans hb)) ▸ ((((((FrM.rf (R := R0) (b := a1) (T := T)).st g95 (by decide +kernel)).st g164 (by decide +kernel)).st g233 (by decide +kernel)).st g302 (by decide +kernel)).st g1343 (by decide +kernel))), (fun dr hd => (Option.some.inj (d2.symm.trans hd)) ▸ hO1350), (Or.inr (⟨(by first | done | with_reducible assumption | exact om_7fac24c5 eF), (by (try rw [c1352]); first | done | with_reducible assumption | omega), (by (try rw [c1355]); first | done | with_reducible assumption | exact om_9adad658 p335 p1345 eF), (by (try rw [c1357]); first | done | with_reducible assumption | exact om_3998a42e p336 p1346 eP), trivial⟩)), trivial⟩
        · skip
          obtain ⟨v1370, c1371⟩ : ∃ v, I299 a0 9 = v := ⟨_, rfl⟩
          have b1372 := iv15_9 hS307.1 ta0 c1371
          rw [c1371] at p342
          obtain ⟨v1373, c1374⟩ : ∃ v, I299 a0 13 = v := ⟨_, rfl⟩
          rw [c1374] at p343
          obtain ⟨v1375, c1376⟩ : ∃ v, I299 a0 14 = v := ⟨_, rfl⟩
          rw [c1376] at p344
          replace hF := hF.neg (by exact om_f8dd5453 p338 p339)
          replace hP := hP.neg (by exact om_f8dd5453 p338 p339)
          replace hF := hF.neg (by exact om_10ed11b5 p340)
          replace hP := hP.neg (by exact om_10ed11b5 p340)
          replace hF := hF.pos (by exact om_696db0e9 h296 h298 p341)
          replace hP := hP.pos (by exact om_696db0e9 h296 h298 p341)
          refine tr_istore dX12_readTurner_145 (by decide) (by decide) ?_
          refine sf_oT147 hE hZ hS307.1 (gB) ta0 (by (try rw [c1371]); first | done | with_reducible assumption | omega) ⟨_, d2⟩ hl0 hl1 hl3 rfl rfl rfl rfl ?_
          rintro I1377 R1378 L1379 ⟨g1380, p1381, p1382, p1383, rp1384, -⟩
          obtain rfl : R0 = R1378 := funext fun a => funext fun j => (g1380.2.2 a j (wm_no rfl)).symm
          have hS1385 := hS307.tr g1380 (by decide +kernel) (by decide +kernel)
          have c1386 : I1377 a1 4 = v45 := (g1380.cell ta1 (by decide +kernel)).trans c308
          have hO1387 : FrO 14 a1 T I0 I1377 := hO309.st g1380 (by decide +kernel)
          obtain ⟨v1388, c1389⟩ : ∃ v, I1377 a0 9 = v := ⟨_, rfl⟩
          have b1390 := iv15_9 hS1385.1 ta0 c1389
          rw [c1389] at p1381
          obtain ⟨v1391, c1392⟩ : ∃ v, I1377 a0 13 = v := ⟨_, rfl⟩
          rw [c1392] at p1382
          rw [c1374] at p1382
          obtain ⟨v1393, c1394⟩ : ∃ v, I1377 a0 14 = v := ⟨_, rfl⟩
          rw [c1394] at p1383
          rw [c1376] at p1383
          have eF := hF.eq
          have eP := hP.eq
          obtain ⟨v1395, c1396⟩ : ∃ v, I1377 a0 10 = v := ⟨_, rfl⟩
          have b1397 := iv15_10 hS1385.1 ta0 c1396
          obtain ⟨v1398, c1399⟩ : ∃ v, I1377 a0 11 = v := ⟨_, rfl⟩
          obtain ⟨y1400, c1401⟩ : ∃ v, L1379 a0 15 = v := ⟨_, rfl⟩
          obtain ⟨v1402, c1403⟩ : ∃ v, I1377 a0 12 = v := ⟨_, rfl⟩
          obtain ⟨v1404, c1405⟩ : ∃ v, I1377 a0 8 = v := ⟨_, rfl⟩
          have b1406 := iv15_8 hS1385.1 ta0 c1405
          exact hq _ _ _ ⟨hS1385, (fun b hb => (Option.some.inj (d2.symm.trans hb)) ▸ ((((((FrM.rf (R := R0) (b := a1) (T := T)).st g95 (by decide +kernel)).st g164 (by decide +kernel)).st g233 (by decide +kernel)).st g302 (by decide +kernel)).st g1380 (by decide +kernel))), (fun dr hd => (Option.some.inj (d2.symm.trans hd)) ▸ hO1387), (Or.inr (⟨(by first | done | with_reducible assumption | exact om_7b84bd42 eF), (by (try rw [c1389]); first | done | with_reducible assumption | omega), (by (try rw [c1392]); first | done | with_reducible assumption | exact om_4510ffdb p343 p1382 eF), (by (try rw [c1394]); first | done | with_reducible assumption | exact om_3998a42e p344 p1383 eP), trivial⟩)), trivial⟩
      · skip
        obtain ⟨v1407, c1408⟩ : ∃ v, I230 a0 9 = v := ⟨_, rfl⟩
        have b1409 := iv15_9 hS238.1 ta0 c1408
        rw [c1408] at p258
        obtain ⟨v1410, c1411⟩ : ∃ v, I230 a0 13 = v := ⟨_, rfl⟩
        rw [c1411] at p259
        obtain ⟨v1412, c1413⟩ : ∃ v, I230 a0 14 = v := ⟨_, rfl⟩
        rw [c1413] at p260
        replace hF := hF.pos (by exact om_c04a00fc p257)
        replace hP := hP.pos (by exact om_c04a00fc p257)
        refine tr_istore dX12_readTurner_133 (by decide) (by decide) ?_
        refine sf_oT135 hE hZ hS238.1 (gB) ta0 (by (try rw [c1408]); first | done | with_reducible assumption | omega) ⟨_, d2⟩ hl0 hl1 hl3 rfl rfl rfl ?_
        rintro I1414 R1415 L1416 ⟨g1417, p1418, p1419, p1420, rp1421, -⟩
        obtain rfl : R0 = R1415 := funext fun a => funext fun j => (g1417.2.2 a j (wm_no rfl)).symm
        have hS1422 := hS238.tr g1417 (by decide +kernel) (by decide +kernel)
        have c1423 : I1414 a1 4 = v45 := (g1417.cell ta1 (by decide +kernel)).trans c239
        have hO1424 : FrO 14 a1 T I0 I1414 := hO240.st g1417 (by decide +kernel)
        obtain ⟨v1425, c1426⟩ : ∃ v, I1414 a0 9 = v := ⟨_, rfl⟩
        have b1427 := iv15_9 hS1422.1 ta0 c1426
        rw [c1426] at p1418
        obtain ⟨v1428, c1429⟩ : ∃ v, I1414 a0 13 = v := ⟨_, rfl⟩
        rw [c1429] at p1419
        rw [c1411] at p1419
        obtain ⟨v1430, c1431⟩ : ∃ v, I1414 a0 14 = v := ⟨_, rfl⟩
        rw [c1431] at p1420
        rw [c1413] at p1420
        have eF := hF.eq
        have eP := hP.eq
        obtain ⟨v1432, c1433⟩ : ∃ v, I1414 a0 10 = v := ⟨_, rfl⟩
        have b1434 := iv15_10 hS1422.1 ta0 c1433
        obtain ⟨v1435, c1436⟩ : ∃ v, I1414 a0 11 = v := ⟨_, rfl⟩
        obtain ⟨y1437, c1438⟩ : ∃ v, L1416 a0 15 = v := ⟨_, rfl⟩
        obtain ⟨v1439, c1440⟩ : ∃ v, I1414 a0 12 = v := ⟨_, rfl⟩
        obtain ⟨v1441, c1442⟩ : ∃ v, I1414 a0 8 = v := ⟨_, rfl⟩
        have b1443 := iv15_8 hS1422.1 ta0 c1442
        exact hq _ _ _ ⟨hS1422, (fun b hb => (Option.some.inj (d2.symm.trans hb)) ▸ (((((FrM.rf (R := R0) (b := a1) (T := T)).st g95 (by decide +kernel)).st g164 (by decide +kernel)).st g233 (by decide +kernel)).st g1417 (by decide +kernel))), (fun dr hd => (Option.some.inj (d2.symm.trans hd)) ▸ hO1424), (Or.inr (⟨(by first | done | with_reducible assumption | exact om_7fac24c5 eF), (by (try rw [c1426]); first | done | with_reducible assumption | omega), (by (try rw [c1429]); first | done | with_reducible assumption | exact om_9adad658 p259 p1419 eF), (by (try rw [c1431]); first | done | with_reducible assumption | exact om_3998a42e p260 p1420 eP), trivial⟩)), trivial⟩
      · skip
        obtain ⟨v1444, c1445⟩ : ∃ v, I230 a0 9 = v := ⟨_, rfl⟩
        have b1446 := iv15_9 hS238.1 ta0 c1445
        rw [c1445] at p265
        obtain ⟨v1447, c1448⟩ : ∃ v, I230 a0 13 = v := ⟨_, rfl⟩
        rw [c1448] at p266
        obtain ⟨v1449, c1450⟩ : ∃ v, I230 a0 14 = v := ⟨_, rfl⟩
        rw [c1450] at p267
        replace hF := hF.neg (by exact om_6653c81a p262 p263)
        replace hP := hP.neg (by exact om_6653c81a p262 p263)
        replace hF := hF.pos (by exact om_73cc8e29 p264)
        replace hP := hP.pos (by exact om_73cc8e29 p264)
        refine tr_istore dX12_readTurner_133 (by decide) (by decide) ?_
        refine sf_oT135 hE hZ hS238.1 (gB) ta0 (by (try rw [c1445]); first | done | with_reducible assumption | omega) ⟨_, d2⟩ hl0 hl1 hl3 rfl rfl rfl ?_
        rintro I1451 R1452 L1453 ⟨g1454, p1455, p1456, p1457, rp1458, -⟩
        obtain rfl : R0 = R1452 := funext fun a => funext fun j => (g1454.2.2 a j (wm_no rfl)).symm
        have hS1459 := hS238.tr g1454 (by decide +kernel) (by decide +kernel)
        have c1460 : I1451 a1 4 = v45 := (g1454.cell ta1 (by decide +kernel)).trans c239
        have hO1461 : FrO 14 a1 T I0 I1451 := hO240.st g1454 (by decide +kernel)
        obtain ⟨v1462, c1463⟩ : ∃ v, I1451 a0 9 = v := ⟨_, rfl⟩
        have b1464 := iv15_9 hS1459.1 ta0 c1463
        rw [c1463] at p1455
        obtain ⟨v1465, c1466⟩ : ∃ v, I1451 a0 13 = v := ⟨_, rfl⟩
        rw [c1466] at p1456
        rw [c1448] at p1456
        obtain ⟨v1467, c1468⟩ : ∃ v, I1451 a0 14 = v := ⟨_, rfl⟩
        rw [c1468] at p1457
        rw [c1450] at p1457
        have eF := hF.eq
        have eP := hP.eq
        obtain ⟨v1469, c1470⟩ : ∃ v, I1451 a0 10 = v := ⟨_, rfl⟩
        have b1471 := iv15_10 hS1459.1 ta0 c1470
        obtain ⟨v1472, c1473⟩ : ∃ v, I1451 a0 11 = v := ⟨_, rfl⟩
        obtain ⟨y1474, c1475⟩ : ∃ v, L1453 a0 15 = v := ⟨_, rfl⟩
        obtain ⟨v1476, c1477⟩ : ∃ v, I1451 a0 12 = v := ⟨_, rfl⟩
        obtain ⟨v1478, c1479⟩ : ∃ v, I1451 a0 8 = v := ⟨_, rfl⟩
        have b1480 := iv15_8 hS1459.1 ta0 c1479
        exact hq _ _ _ ⟨hS1459, (fun b hb => (Option.some.inj (d2.symm.trans hb)) ▸ (((((FrM.rf (R := R0) (b := a1) (T := T)).st g95 (by decide +kernel)).st g164 (by decide +kernel)).st g233 (by decide +kernel)).st g1454 (by decide +kernel))), (fun dr hd => (Option.some.inj (d2.symm.trans hd)) ▸ hO1461), (Or.inr (⟨(by first | done | with_reducible assumption | exact om_7fac24c5 eF), (by (try rw [c1463]); first | done | with_reducible assumption | omega), (by (try rw [c1466]); first | done | with_reducible assumption | exact om_9adad658 p266 p1456 eF), (by (try rw [c1468]); first | done | with_reducible assumption | exact om_3998a42e p267 p1457 eP), trivial⟩)), trivial⟩
      · skip
        obtain ⟨v1481, c1482⟩ : ∃ v, I230 a0 9 = v := ⟨_, rfl⟩
        have b1483 := iv15_9 hS238.1 ta0 c1482
        rw [c1482] at p273
        obtain ⟨v1484, c1485⟩ : ∃ v, I230 a0 13 = v := ⟨_, rfl⟩
        rw [c1485] at p274
        obtain ⟨v1486, c1487⟩ : ∃ v, I230 a0 14 = v := ⟨_, rfl⟩
        rw [c1487] at p275
        replace hF := hF.neg (by exact om_6653c81a p269 p270)
        replace hP := hP.neg (by exact om_6653c81a p269 p270)
        replace hF := hF.neg (by exact om_10ed11b5 p271)
        replace hP := hP.neg (by exact om_10ed11b5 p271)
        replace hF := hF.pos (by exact om_18ef04d2 h227 h229 p272)
        replace hP := hP.pos (by exact om_18ef04d2 h227 h229 p272)
        refine tr_istore dX12_readTurner_133 (by decide) (by decide) ?_
        refine sf_oT135 hE hZ hS238.1 (gB) ta0 (by (try rw [c1482]); first | done | with_reducible assumption | omega) ⟨_, d2⟩ hl0 hl1 hl3 rfl rfl rfl ?_
        rintro I1488 R1489 L1490 ⟨g1491, p1492, p1493, p1494, rp1495, -⟩
        obtain rfl : R0 = R1489 := funext fun a => funext fun j => (g1491.2.2 a j (wm_no rfl)).symm
        have hS1496 := hS238.tr g1491 (by decide +kernel) (by decide +kernel)
        have c1497 : I1488 a1 4 = v45 := (g1491.cell ta1 (by decide +kernel)).trans c239
        have hO1498 : FrO 14 a1 T I0 I1488 := hO240.st g1491 (by decide +kernel)
        obtain ⟨v1499, c1500⟩ : ∃ v, I1488 a0 9 = v := ⟨_, rfl⟩
        have b1501 := iv15_9 hS1496.1 ta0 c1500
        rw [c1500] at p1492
        obtain ⟨v1502, c1503⟩ : ∃ v, I1488 a0 13 = v := ⟨_, rfl⟩
        rw [c1503] at p1493
        rw [c1485] at p1493
        obtain ⟨v1504, c1505⟩ : ∃ v, I1488 a0 14 = v := ⟨_, rfl⟩
        rw [c1505] at p1494
        rw [c1487] at p1494
        have eF := hF.eq
        have eP := hP.eq
        obtain ⟨v1506, c1507⟩ : ∃ v, I1488 a0 10 = v := ⟨_, rfl⟩
        have b1508 := iv15_10 hS1496.1 ta0 c1507
        obtain ⟨v1509, c1510⟩ : ∃ v, I1488 a0 11 = v := ⟨_, rfl⟩
        obtain ⟨y1511, c1512⟩ : ∃ v, L1490 a0 15 = v := ⟨_, rfl⟩
        obtain ⟨v1513, c1514⟩ : ∃ v, I1488 a0 12 = v := ⟨_, rfl⟩
        obtain ⟨v1515, c1516⟩ : ∃ v, I1488 a0 8 = v := ⟨_, rfl⟩
        have b1517 := iv15_8 hS1496.1 ta0 c1516
        exact hq _ _ _ ⟨hS1496, (fun b hb => (Option.some.inj (d2.symm.trans hb)) ▸ (((((FrM.rf (R := R0) (b := a1) (T := T)).st g95 (by decide +kernel)).st g164 (by decide +kernel)).st g233 (by decide +kernel)).st g1491 (by decide +kernel))), (fun dr hd => (Option.some.inj (d2.symm.trans hd)) ▸ hO1498), (Or.inr (⟨(by first | done | with_reducible assumption | exact om_7b84bd42 eF), (by (try rw [c1500]); first | done | with_reducible assumption | omega), (by (try rw [c1503]); first | done | with_reducible assumption | exact om_4510ffdb p274 p1493 eF), (by (try rw [c1505]); first | done | with_reducible assumption | exact om_3998a42e p275 p1494 eP), trivial⟩)), trivial⟩
    · skip
      obtain ⟨v1518, c1519⟩ : ∃ v, I161 a0 9 = v := ⟨_, rfl⟩
      have b1520 := iv15_9 hS169.1 ta0 c1519
      rw [c1519] at p189
      obtain ⟨v1521, c1522⟩ : ∃ v, I161 a0 13 = v := ⟨_, rfl⟩
      rw [c1522] at p190
      obtain ⟨v1523, c1524⟩ : ∃ v, I161 a0 14 = v := ⟨_, rfl⟩
      rw [c1524] at p191
      replace hF := hF.pos (by exact om_5c733ef2 p188)
      replace hP := hP.pos (by exact om_5c733ef2 p188)
      refine tr_istore dX12_readTurner_121 (by decide) (by decide) ?_
      refine sf_oT123 hE hZ hS169.1 (gB) ta0 (by (try rw [c1519]); first | done | with_reducible assumption | omega) ⟨_, d2⟩ hl0 hl1 hl3 rfl rfl ?_
      rintro I1525 R1526 L1527 ⟨g1528, p1529, p1530, p1531, rp1532, -⟩
      obtain rfl : R0 = R1526 := funext fun a => funext fun j => (g1528.2.2 a j (wm_no rfl)).symm
      have hS1533 := hS169.tr g1528 (by decide +kernel) (by decide +kernel)
      have c1534 : I1525 a1 4 = v45 := (g1528.cell ta1 (by decide +kernel)).trans c170
      have hO1535 : FrO 14 a1 T I0 I1525 := hO171.st g1528 (by decide +kernel)
      obtain ⟨v1536, c1537⟩ : ∃ v, I1525 a0 9 = v := ⟨_, rfl⟩
      have b1538 := iv15_9 hS1533.1 ta0 c1537
      rw [c1537] at p1529
      obtain ⟨v1539, c1540⟩ : ∃ v, I1525 a0 13 = v := ⟨_, rfl⟩
      rw [c1540] at p1530
      rw [c1522] at p1530
      obtain ⟨v1541, c1542⟩ : ∃ v, I1525 a0 14 = v := ⟨_, rfl⟩
      rw [c1542] at p1531
      rw [c1524] at p1531
      have eF := hF.eq
      have eP := hP.eq
      obtain ⟨v1543, c1544⟩ : ∃ v, I1525 a0 10 = v := ⟨_, rfl⟩
      have b1545 := iv15_10 hS1533.1 ta0 c1544
      obtain ⟨v1546, c1547⟩ : ∃ v, I1525 a0 11 = v := ⟨_, rfl⟩
      obtain ⟨y1548, c1549⟩ : ∃ v, L1527 a0 15 = v := ⟨_, rfl⟩
      obtain ⟨v1550, c1551⟩ : ∃ v, I1525 a0 12 = v := ⟨_, rfl⟩
      obtain ⟨v1552, c1553⟩ : ∃ v, I1525 a0 8 = v := ⟨_, rfl⟩
      have b1554 := iv15_8 hS1533.1 ta0 c1553
      exact hq _ _ _ ⟨hS1533, (fun b hb => (Option.some.inj (d2.symm.trans hb)) ▸ ((((FrM.rf (R := R0) (b := a1) (T := T)).st g95 (by decide +kernel)).st g164 (by decide +kernel)).st g1528 (by decide +kernel))), (fun dr hd => (Option.some.inj (d2.symm.trans hd)) ▸ hO1535), (Or.inr (⟨(by first | done | with_reducible assumption | exact om_7fac24c5 eF), (by (try rw [c1537]); first | done | with_reducible assumption | omega), (by (try rw [c1540]); first | done | with_reducible assumption | exact om_9adad658 p190 p1530 eF), (by (try rw [c1542]); first | done | with_reducible assumption | exact om_3998a42e p191 p1531 eP), trivial⟩)), trivial⟩
    · skip
      obtain ⟨v1555, c1556⟩ : ∃ v, I161 a0 9 = v := ⟨_, rfl⟩
      have b1557 := iv15_9 hS169.1 ta0 c1556
      rw [c1556] at p196
      obtain ⟨v1558, c1559⟩ : ∃ v, I161 a0 13 = v := ⟨_, rfl⟩
      rw [c1559] at p197
      obtain ⟨v1560, c1561⟩ : ∃ v, I161 a0 14 = v := ⟨_, rfl⟩
      rw [c1561] at p198
      replace hF := hF.neg (by exact om_04941ac6 p193 p194)
      replace hP := hP.neg (by exact om_04941ac6 p193 p194)
      replace hF := hF.pos (by exact om_73cc8e29 p195)
      replace hP := hP.pos (by exact om_73cc8e29 p195)
      refine tr_istore dX12_readTurner_121 (by decide) (by decide) ?_
      refine sf_oT123 hE hZ hS169.1 (gB) ta0 (by (try rw [c1556]); first | done | with_reducible assumption | omega) ⟨_, d2⟩ hl0 hl1 hl3 rfl rfl ?_
      rintro I1562 R1563 L1564 ⟨g1565, p1566, p1567, p1568, rp1569, -⟩
      obtain rfl : R0 = R1563 := funext fun a => funext fun j => (g1565.2.2 a j (wm_no rfl)).symm
      have hS1570 := hS169.tr g1565 (by decide +kernel) (by decide +kernel)
      have c1571 : I1562 a1 4 = v45 := (g1565.cell ta1 (by decide +kernel)).trans c170
      have hO1572 : FrO 14 a1 T I0 I1562 := hO171.st g1565 (by decide +kernel)
      obtain ⟨v1573, c1574⟩ : ∃ v, I1562 a0 9 = v := ⟨_, rfl⟩
      have b1575 := iv15_9 hS1570.1 ta0 c1574
      rw [c1574] at p1566
      obtain ⟨v1576, c1577⟩ : ∃ v, I1562 a0 13 = v := ⟨_, rfl⟩
      rw [c1577] at p1567
      rw [c1559] at p1567
      obtain ⟨v1578, c1579⟩ : ∃ v, I1562 a0 14 = v := ⟨_, rfl⟩
      rw [c1579] at p1568
      rw [c1561] at p1568
      have eF := hF.eq
      have eP := hP.eq
      obtain ⟨v1580, c1581⟩ : ∃ v, I1562 a0 10 = v := ⟨_, rfl⟩
      have b1582 := iv15_10 hS1570.1 ta0 c1581
      obtain ⟨v1583, c1584⟩ : ∃ v, I1562 a0 11 = v := ⟨_, rfl⟩
      obtain ⟨y1585, c1586⟩ : ∃ v, L1564 a0 15 = v := ⟨_, rfl⟩
      obtain ⟨v1587, c1588⟩ : ∃ v, I1562 a0 12 = v := ⟨_, rfl⟩
      obtain ⟨v1589, c1590⟩ : ∃ v, I1562 a0 8 = v := ⟨_, rfl⟩
      have b1591 := iv15_8 hS1570.1 ta0 c1590
      exact hq _ _ _ ⟨hS1570, (fun b hb => (Option.some.inj (d2.symm.trans hb)) ▸ ((((FrM.rf (R := R0) (b := a1) (T := T)).st g95 (by decide +kernel)).st g164 (by decide +kernel)).st g1565 (by decide +kernel))), (fun dr hd => (Option.some.inj (d2.symm.trans hd)) ▸ hO1572), (Or.inr (⟨(by first | done | with_reducible assumption | exact om_7fac24c5 eF), (by (try rw [c1574]); first | done | with_reducible assumption | omega), (by (try rw [c1577]); first | done | with_reducible assumption | exact om_9adad658 p197 p1567 eF), (by (try rw [c1579]); first | done | with_reducible assumption | exact om_3998a42e p198 p1568 eP), trivial⟩)), trivial⟩
    · skip
      obtain ⟨v1592, c1593⟩ : ∃ v, I161 a0 9 = v := ⟨_, rfl⟩
      have b1594 := iv15_9 hS169.1 ta0 c1593
      rw [c1593] at p204
      obtain ⟨v1595, c1596⟩ : ∃ v, I161 a0 13 = v := ⟨_, rfl⟩
      rw [c1596] at p205
      obtain ⟨v1597, c1598⟩ : ∃ v, I161 a0 14 = v := ⟨_, rfl⟩
      rw [c1598] at p206
      replace hF := hF.neg (by exact om_04941ac6 p200 p201)
      replace hP := hP.neg (by exact om_04941ac6 p200 p201)
      replace hF := hF.neg (by exact om_10ed11b5 p202)
      replace hP := hP.neg (by exact om_10ed11b5 p202)
      replace hF := hF.pos (by exact om_ecc016f6 p32 w77 h89 h91 p103 h158 h160 p203)
      replace hP := hP.pos (by exact om_ecc016f6 p32 w77 h89 h91 p103 h158 h160 p203)
      refine tr_istore dX12_readTurner_121 (by decide) (by decide) ?_
      refine sf_oT123 hE hZ hS169.1 (gB) ta0 (by (try rw [c1593]); first | done | with_reducible assumption | omega) ⟨_, d2⟩ hl0 hl1 hl3 rfl rfl ?_
      rintro I1599 R1600 L1601 ⟨g1602, p1603, p1604, p1605, rp1606, -⟩
      obtain rfl : R0 = R1600 := funext fun a => funext fun j => (g1602.2.2 a j (wm_no rfl)).symm
      have hS1607 := hS169.tr g1602 (by decide +kernel) (by decide +kernel)
      have c1608 : I1599 a1 4 = v45 := (g1602.cell ta1 (by decide +kernel)).trans c170
      have hO1609 : FrO 14 a1 T I0 I1599 := hO171.st g1602 (by decide +kernel)
      obtain ⟨v1610, c1611⟩ : ∃ v, I1599 a0 9 = v := ⟨_, rfl⟩
      have b1612 := iv15_9 hS1607.1 ta0 c1611
      rw [c1611] at p1603
      obtain ⟨v1613, c1614⟩ : ∃ v, I1599 a0 13 = v := ⟨_, rfl⟩
      rw [c1614] at p1604
      rw [c1596] at p1604
      obtain ⟨v1615, c1616⟩ : ∃ v, I1599 a0 14 = v := ⟨_, rfl⟩
      rw [c1616] at p1605
      rw [c1598] at p1605
      have eF := hF.eq
      have eP := hP.eq
      obtain ⟨v1617, c1618⟩ : ∃ v, I1599 a0 10 = v := ⟨_, rfl⟩
      have b1619 := iv15_10 hS1607.1 ta0 c1618
      obtain ⟨v1620, c1621⟩ : ∃ v, I1599 a0 11 = v := ⟨_, rfl⟩
      obtain ⟨y1622, c1623⟩ : ∃ v, L1601 a0 15 = v := ⟨_, rfl⟩
      obtain ⟨v1624, c1625⟩ : ∃ v, I1599 a0 12 = v := ⟨_, rfl⟩
      obtain ⟨v1626, c1627⟩ : ∃ v, I1599 a0 8 = v := ⟨_, rfl⟩
      have b1628 := iv15_8 hS1607.1 ta0 c1627
      exact hq _ _ _ ⟨hS1607, (fun b hb => (Option.some.inj (d2.symm.trans hb)) ▸ ((((FrM.rf (R := R0) (b := a1) (T := T)).st g95 (by decide +kernel)).st g164 (by decide +kernel)).st g1602 (by decide +kernel))), (fun dr hd => (Option.some.inj (d2.symm.trans hd)) ▸ hO1609), (Or.inr (⟨(by first | done | with_reducible assumption | exact om_7b84bd42 eF), (by (try rw [c1611]); first | done | with_reducible assumption | omega), (by (try rw [c1614]); first | done | with_reducible assumption | exact om_4510ffdb p205 p1604 eF), (by (try rw [c1616]); first | done | with_reducible assumption | exact om_3998a42e p206 p1605 eP), trivial⟩)), trivial⟩
  · skip
    obtain ⟨v1629, c1630⟩ : ∃ v, I92 a0 9 = v := ⟨_, rfl⟩
    have b1631 := iv15_9 hS100.1 ta0 c1630
    rw [c1630] at p120
    obtain ⟨v1632, c1633⟩ : ∃ v, I92 a0 13 = v := ⟨_, rfl⟩
    rw [c1633] at p121
    obtain ⟨v1634, c1635⟩ : ∃ v, I92 a0 14 = v := ⟨_, rfl⟩
    rw [c1635] at p122
    replace hF := hF.pos (by exact om_8b230aaf p119)
    replace hP := hP.pos (by exact om_8b230aaf p119)
    refine tr_istore dX12_readTurner_101 (by decide) (by decide) ?_
    refine sf_oT103 hE hZ hS100.1 (gB) ta0 (by (try rw [c1630]); first | done | with_reducible assumption | omega) ⟨_, d2⟩ hl0 hl1 hl3 rfl ?_
    rintro I1636 R1637 L1638 ⟨g1639, p1640, p1641, p1642, rp1643, -⟩
    obtain rfl : R0 = R1637 := funext fun a => funext fun j => (g1639.2.2 a j (wm_no rfl)).symm
    have hS1644 := hS100.tr g1639 (by decide +kernel) (by decide +kernel)
    have c1645 : I1636 a1 4 = v45 := (g1639.cell ta1 (by decide +kernel)).trans c101
    have hO1646 : FrO 14 a1 T I0 I1636 := hO102.st g1639 (by decide +kernel)
    obtain ⟨v1647, c1648⟩ : ∃ v, I1636 a0 9 = v := ⟨_, rfl⟩
    have b1649 := iv15_9 hS1644.1 ta0 c1648
    rw [c1648] at p1640
    obtain ⟨v1650, c1651⟩ : ∃ v, I1636 a0 13 = v := ⟨_, rfl⟩
    rw [c1651] at p1641
    rw [c1633] at p1641
    obtain ⟨v1652, c1653⟩ : ∃ v, I1636 a0 14 = v := ⟨_, rfl⟩
    rw [c1653] at p1642
    rw [c1635] at p1642
    have eF := hF.eq
    have eP := hP.eq
    obtain ⟨v1654, c1655⟩ : ∃ v, I1636 a0 10 = v := ⟨_, rfl⟩
    have b1656 := iv15_10 hS1644.1 ta0 c1655
    obtain ⟨v1657, c1658⟩ : ∃ v, I1636 a0 11 = v := ⟨_, rfl⟩
    obtain ⟨y1659, c1660⟩ : ∃ v, L1638 a0 15 = v := ⟨_, rfl⟩
    obtain ⟨v1661, c1662⟩ : ∃ v, I1636 a0 12 = v := ⟨_, rfl⟩
    obtain ⟨v1663, c1664⟩ : ∃ v, I1636 a0 8 = v := ⟨_, rfl⟩
    have b1665 := iv15_8 hS1644.1 ta0 c1664
    exact hq _ _ _ ⟨hS1644, (fun b hb => (Option.some.inj (d2.symm.trans hb)) ▸ (((FrM.rf (R := R0) (b := a1) (T := T)).st g95 (by decide +kernel)).st g1639 (by decide +kernel))), (fun dr hd => (Option.some.inj (d2.symm.trans hd)) ▸ hO1646), (Or.inr (⟨(by first | done | with_reducible assumption | exact om_7fac24c5 eF), (by (try rw [c1648]); first | done | with_reducible assumption | omega), (by (try rw [c1651]); first | done | with_reducible assumption | exact om_9adad658 p121 p1641 eF), (by (try rw [c1653]); first | done | with_reducible assumption | exact om_8e6888af p11 p122 p1642 eP), trivial⟩)), trivial⟩
  · skip
    obtain ⟨v1666, c1667⟩ : ∃ v, I92 a0 9 = v := ⟨_, rfl⟩
    have b1668 := iv15_9 hS100.1 ta0 c1667
    rw [c1667] at p127
    obtain ⟨v1669, c1670⟩ : ∃ v, I92 a0 13 = v := ⟨_, rfl⟩
    rw [c1670] at p128
    obtain ⟨v1671, c1672⟩ : ∃ v, I92 a0 14 = v := ⟨_, rfl⟩
    rw [c1672] at p129
    replace hF := hF.neg (by exact om_58a59c28 p124 p125)
    replace hP := hP.neg (by exact om_58a59c28 p124 p125)
    replace hF := hF.pos (by exact om_73cc8e29 p126)
    replace hP := hP.pos (by exact om_73cc8e29 p126)
    refine tr_istore dX12_readTurner_101 (by decide) (by decide) ?_
    refine sf_oT103 hE hZ hS100.1 (gB) ta0 (by (try rw [c1667]); first | done | with_reducible assumption | omega) ⟨_, d2⟩ hl0 hl1 hl3 rfl ?_
    rintro I1673 R1674 L1675 ⟨g1676, p1677, p1678, p1679, rp1680, -⟩
    obtain rfl : R0 = R1674 := funext fun a => funext fun j => (g1676.2.2 a j (wm_no rfl)).symm
    have hS1681 := hS100.tr g1676 (by decide +kernel) (by decide +kernel)
    have c1682 : I1673 a1 4 = v45 := (g1676.cell ta1 (by decide +kernel)).trans c101
    have hO1683 : FrO 14 a1 T I0 I1673 := hO102.st g1676 (by decide +kernel)
    obtain ⟨v1684, c1685⟩ : ∃ v, I1673 a0 9 = v := ⟨_, rfl⟩
    have b1686 := iv15_9 hS1681.1 ta0 c1685
    rw [c1685] at p1677
    obtain ⟨v1687, c1688⟩ : ∃ v, I1673 a0 13 = v := ⟨_, rfl⟩
    rw [c1688] at p1678
    rw [c1670] at p1678
    obtain ⟨v1689, c1690⟩ : ∃ v, I1673 a0 14 = v := ⟨_, rfl⟩
    rw [c1690] at p1679
    rw [c1672] at p1679
    have eF := hF.eq
    have eP := hP.eq
    obtain ⟨v1691, c1692⟩ : ∃ v, I1673 a0 10 = v := ⟨_, rfl⟩
    have b1693 := iv15_10 hS1681.1 ta0 c1692
    obtain ⟨v1694, c1695⟩ : ∃ v, I1673 a0 11 = v := ⟨_, rfl⟩
    obtain ⟨y1696, c1697⟩ : ∃ v, L1675 a0 15 = v := ⟨_, rfl⟩
    obtain ⟨v1698, c1699⟩ : ∃ v, I1673 a0 12 = v := ⟨_, rfl⟩
    obtain ⟨v1700, c1701⟩ : ∃ v, I1673 a0 8 = v := ⟨_, rfl⟩
    have b1702 := iv15_8 hS1681.1 ta0 c1701
    exact hq _ _ _ ⟨hS1681, (fun b hb => (Option.some.inj (d2.symm.trans hb)) ▸ (((FrM.rf (R := R0) (b := a1) (T := T)).st g95 (by decide +kernel)).st g1676 (by decide +kernel))), (fun dr hd => (Option.some.inj (d2.symm.trans hd)) ▸ hO1683), (Or.inr (⟨(by first | done | with_reducible assumption | exact om_7fac24c5 eF), (by (try rw [c1685]); first | done | with_reducible assumption | omega), (by (try rw [c1688]); first | done | with_reducible assumption | exact om_9adad658 p128 p1678 eF), (by (try rw [c1690]); first | done | with_reducible assumption | exact om_3998a42e p129 p1679 eP), trivial⟩)), trivial⟩
  · skip
    obtain ⟨v1703, c1704⟩ : ∃ v, I92 a0 9 = v := ⟨_, rfl⟩
    have b1705 := iv15_9 hS100.1 ta0 c1704
    rw [c1704] at p135
    obtain ⟨v1706, c1707⟩ : ∃ v, I92 a0 13 = v := ⟨_, rfl⟩
    rw [c1707] at p136
    obtain ⟨v1708, c1709⟩ : ∃ v, I92 a0 14 = v := ⟨_, rfl⟩
    rw [c1709] at p137
    replace hF := hF.neg (by exact om_58a59c28 p131 p132)
    replace hP := hP.neg (by exact om_58a59c28 p131 p132)
    replace hF := hF.neg (by exact om_10ed11b5 p133)
    replace hP := hP.neg (by exact om_10ed11b5 p133)
    replace hF := hF.pos (by exact om_41eb13e5 p32 w77 h87 h89 h91 p134)
    replace hP := hP.pos (by exact om_41eb13e5 p32 w77 h87 h89 h91 p134)
    refine tr_istore dX12_readTurner_101 (by decide) (by decide) ?_
    refine sf_oT103 hE hZ hS100.1 (gB) ta0 (by (try rw [c1704]); first | done | with_reducible assumption | omega) ⟨_, d2⟩ hl0 hl1 hl3 rfl ?_
    rintro I1710 R1711 L1712 ⟨g1713, p1714, p1715, p1716, rp1717, -⟩
    obtain rfl : R0 = R1711 := funext fun a => funext fun j => (g1713.2.2 a j (wm_no rfl)).symm
    have hS1718 := hS100.tr g1713 (by decide +kernel) (by decide +kernel)
    have c1719 : I1710 a1 4 = v45 := (g1713.cell ta1 (by decide +kernel)).trans c101
    have hO1720 : FrO 14 a1 T I0 I1710 := hO102.st g1713 (by decide +kernel)
    obtain ⟨v1721, c1722⟩ : ∃ v, I1710 a0 9 = v := ⟨_, rfl⟩
    have b1723 := iv15_9 hS1718.1 ta0 c1722
    rw [c1722] at p1714
    obtain ⟨v1724, c1725⟩ : ∃ v, I1710 a0 13 = v := ⟨_, rfl⟩
    rw [c1725] at p1715
    rw [c1707] at p1715
    obtain ⟨v1726, c1727⟩ : ∃ v, I1710 a0 14 = v := ⟨_, rfl⟩
    rw [c1727] at p1716
    rw [c1709] at p1716
    have eF := hF.eq
    have eP := hP.eq
    obtain ⟨v1728, c1729⟩ : ∃ v, I1710 a0 10 = v := ⟨_, rfl⟩
    have b1730 := iv15_10 hS1718.1 ta0 c1729
    obtain ⟨v1731, c1732⟩ : ∃ v, I1710 a0 11 = v := ⟨_, rfl⟩
    obtain ⟨y1733, c1734⟩ : ∃ v, L1712 a0 15 = v := ⟨_, rfl⟩
    obtain ⟨v1735, c1736⟩ : ∃ v, I1710 a0 12 = v := ⟨_, rfl⟩
    obtain ⟨v1737, c1738⟩ : ∃ v, I1710 a0 8 = v := ⟨_, rfl⟩
    have b1739 := iv15_8 hS1718.1 ta0 c1738
    exact hq _ _ _ ⟨hS1718, (fun b hb => (Option.some.inj (d2.symm.trans hb)) ▸ (((FrM.rf (R := R0) (b := a1) (T := T)).st g95 (by decide +kernel)).st g1713 (by decide +kernel))), (fun dr hd => (Option.some.inj (d2.symm.trans hd)) ▸ hO1720), (Or.inr (⟨(by first | done | with_reducible assumption | exact om_7b84bd42 eF), (by (try rw [c1722]); first | done | with_reducible assumption | omega), (by (try rw [c1725]); first | done | with_reducible assumption | exact om_4510ffdb p136 p1715 eF), (by (try rw [c1727]); first | done | with_reducible assumption | exact om_3998a42e p137 p1716 eP), trivial⟩)), trivial⟩
def wif_oT74 : List Nat := [968, 969, 970, 971, 972, 973, 974]
def wrf_oT74 : List Nat := []
def wlf_oT74 : List Nat := []
set_option maxHeartbeats 4000000 in
theorem sf_oT74 {X : cz_X} (hE : cz_env X) {T : Nat → Nat} {cn : Nat} {K N : Nat → Nat} {I0 : cz_I} {R0 : cz_R} {L0 : cz_L} {Q : cz_Q} (hZ : cz_Z X mX12_readTurner Q) (hW0 : Wf T cn K N I0 R0 0) (gB : cz_B) {a0 : Nat} (ta0 : T a0 = 15) {y1 : Int64} {x2 : Int32} (pre0 : (I0 a0 9).toInt = 5) (nn4 : ∃ b, R0 a0 4 = some b) {ls : Nat → Option Value} (hl0 : ls 0 = some (.ref a0)) (hl1 : ls 1 = some (.long y1)) (hl3 : ls 3 = some (.int x2)) (hq : ∀ (I' : cz_I) (R' : cz_R) (L' : cz_L), St T cn K N 0 wif_oT74 wrf_oT74 I0 R0 I' R' ∧ ((I' a0 9).toInt = 5) ∧ ((I' a0 13).toInt = (I0 a0 13).toInt) ∧ ((I' a0 14).toInt = (I0 a0 14).toInt) ∧ (∀ b, R0 a0 4 = some b → FrM R0 b T I0 I') ∧ True → Q none cn K N I' R' L') : Tr X mX12_readTurner 74 ls [] cn K N I0 R0 L0 0 0 := by
  have hS0 : St T cn K N 0 wif_oT74 wrf_oT74 I0 R0 I0 R0 := St.rf0 hW0
  have hL0 : LgS T wlf_oT74 L0 L0 := LgS.rf0
  obtain ⟨a1, d2⟩ := nn4
  have ta1 : T a1 = 14 := hW0.rsN ta0 rfl d2
  obtain ⟨v3, c4⟩ : ∃ v, I0 a0 9 = v := ⟨_, rfl⟩
  have b5 := iv15_9 hS0.1 ta0 c4
  have p6 := pre0
  rw [c4] at p6
  obtain ⟨v7, c8⟩ : ∃ v, I0 a0 13 = v := ⟨_, rfl⟩
  obtain ⟨v9, c10⟩ : ∃ v, I0 a0 14 = v := ⟨_, rfl⟩
  refine tr_iload_n dX12_readTurner_74 hl3 ?_
  refine q_iconst dX12_readTurner_75 (by decide) ?_
  intro v11 h12
  refine q_icmp_ne 84 dX12_readTurner_76 (by decide) (fun h13 => ?_) (fun h13 => ?_)
  · skip
    refine tr_aload_n dX12_readTurner_84 hl0 ?_
    refine tr_ldcwS dX12_readTurner_85 ld12_324 ?_
    refine q_iconst dX12_readTurner_88 (by decide) ?_
    intro v14 h15
    refine tr_aload_n dX12_readTurner_89 hl0 ?_
    refine tr_getR dX12_readTurner_90 fl12_188 (kR15 hS0.1 ta0) d2 ?_
    obtain ⟨v16, c17⟩ : ∃ v, I0 a1 0 = v := ⟨_, rfl⟩
    have b18 := iv14_0 hW0 ta1 c17
    refine q_getI dX12_readTurner_93 fl12_192 (kR14 hS0.1 ta1) c17 ?_
    refine q_iconst dX12_readTurner_96 (by decide) ?_
    intro v19 h20
    refine q_isubE dX12_readTurner_97 (by intro j1 j2 j3 j4; exact om_c6626f59 b18.2 b18.1 h20) ?_
    intro v21 h22
    refine q_callVi hE (M' := mX12_readPart) (as := [_, _, _]) dX12_readTurner_98 lk12_249 inX12_readPart seX12_readPart myX12_readPart (by decide) ⟨by decide, by decide⟩ rfl (kR15 hS0.1 ta0) (Nat.le_of_ble_eq_true rfl) rfl rfl (by decide) (by decide) (k_X12_readPart hS0.1 ta0 (by decide)) ?_
    rintro v27 cn' K' N' I23 R24 L25 ⟨rfl, rfl, rfl, rfl, g26, p28, w29, -⟩
    have hS30 := hS0.tr g26 (by decide +kernel) (by decide +kernel)
    have b31 : 0 ≤ v27.toInt ∧ v27.toInt ≤ 239 := by exact om_62c0eb21 h15 b18.2 b18.1 h20 h22 p28
    clear p28
    have ov32 := w29.over (by rw [c4]; exact om_394b70a2 p6)
    obtain ⟨v33, c34⟩ : ∃ v, I23 a0 9 = v := ⟨_, rfl⟩
    have b35 := iv15_9 hS30.1 ta0 c34
    obtain ⟨v36, c37⟩ : ∃ v, I23 a0 13 = v := ⟨_, rfl⟩
    obtain ⟨v38, c39⟩ : ∃ v, I23 a0 14 = v := ⟨_, rfl⟩
    (try rw [c34] at ov32)
    (try rw [c37] at ov32)
    (try rw [c39] at ov32)
    (try rw [c4] at ov32)
    (try rw [c8] at ov32)
    (try rw [c10] at ov32)
    refine tr_istore dX12_readTurner_101 (by decide) (by decide) ?_
    refine sf_oT103 hE hZ hS30.1 (gB) ta0 (by (try rw [c34]); first | done | with_reducible assumption | exact om_394b70a2 ov32.1) ⟨_, d2⟩ hl0 hl1 hl3 rfl ?_
    rintro I40 R41 L42 ⟨g43, p44, p45, p46, rp47, -⟩
    obtain rfl : R0 = R41 := funext fun a => funext fun j => (g43.2.2 a j (wm_no rfl)).symm
    have hS48 := hS30.tr g43 (by decide +kernel) (by decide +kernel)
    obtain ⟨v49, c50⟩ : ∃ v, I40 a0 9 = v := ⟨_, rfl⟩
    have b51 := iv15_9 hS48.1 ta0 c50
    rw [c50] at p44
    obtain ⟨v52, c53⟩ : ∃ v, I40 a0 13 = v := ⟨_, rfl⟩
    rw [c53] at p45
    rw [c37] at p45
    obtain ⟨v54, c55⟩ : ∃ v, I40 a0 14 = v := ⟨_, rfl⟩
    rw [c55] at p46
    rw [c39] at p46
    exact hq _ _ _ ⟨hS48, (by (try rw [c50]); first | done | with_reducible assumption | omega), (by (try rw [c53]); (try rw [c8]); first | done | with_reducible assumption | exact om_9fa72578 ov32.2.1 p45), (by (try rw [c55]); (try rw [c10]); first | done | with_reducible assumption | exact om_9fa72578 ov32.2.2 p46), (fun b hb => (Option.some.inj (d2.symm.trans hb)) ▸ (((FrM.rf (R := R0) (b := a1) (T := T)).st g26 (by decide +kernel)).st g43 (by decide +kernel))), trivial⟩
  · skip
    refine tr_aload_n dX12_readTurner_79 hl0 ?_
    refine q_iconst dX12_readTurner_80 (by decide) ?_
    intro v56 h57
    obtain ⟨v58, c59⟩ : ∃ v, I0 a0 8 = v := ⟨_, rfl⟩
    have b60 := iv15_8 hS0.1 ta0 c59
    refine q_callVv hE (M' := mX12_flaw) (as := [_]) dX12_readTurner_81 lk12_145 inX12_flaw seX12_flaw myX12_flaw (by decide) ⟨by decide, by decide⟩ rfl (kR15 hS0.1 ta0) (Nat.le_of_ble_eq_true rfl) rfl rfl (by decide) (by decide) (k_X12_flaw hS0.1 ta0 (by exact om_95922198 h57)) ?_
    rintro cn' K' N' I61 R62 L63 ⟨rfl, rfl, rfl, rfl, rfl, g64, p66, p67, w68, -⟩
    have hS69 := hS0.tr g64 (by decide +kernel) (by decide +kernel)
    have c70 : I61 a0 8 = v58 := (g64.cell ta0 (by decide +kernel)).trans c59
    obtain ⟨v71, c72⟩ : ∃ v, I61 a0 9 = v := ⟨_, rfl⟩
    have b73 := iv15_9 hS69.1 ta0 c72
    rw [c72] at p66
    rw [c70] at p67
    rw [c59] at p67
    have ov74 := w68.over (by rw [c4]; exact om_394b70a2 p6)
    obtain ⟨v75, c76⟩ : ∃ v, I61 a0 9 = v := ⟨_, rfl⟩
    have b77 := iv15_9 hS69.1 ta0 c76
    obtain ⟨v78, c79⟩ : ∃ v, I61 a0 13 = v := ⟨_, rfl⟩
    obtain ⟨v80, c81⟩ : ∃ v, I61 a0 14 = v := ⟨_, rfl⟩
    (try rw [c76] at ov74)
    (try rw [c79] at ov74)
    (try rw [c81] at ov74)
    (try rw [c4] at ov74)
    (try rw [c8] at ov74)
    (try rw [c10] at ov74)
    refine tr_aload_n dX12_readTurner_84 hl0 ?_
    refine tr_ldcwS dX12_readTurner_85 ld12_324 ?_
    refine q_iconst dX12_readTurner_88 (by decide) ?_
    intro v82 h83
    refine tr_aload_n dX12_readTurner_89 hl0 ?_
    refine tr_getR dX12_readTurner_90 fl12_188 (kR15 hS69.1 ta0) d2 ?_
    obtain ⟨v84, c85⟩ : ∃ v, I0 a1 0 = v := ⟨_, rfl⟩
    have b86 := iv14_0 hW0 ta1 c85
    refine q_getI dX12_readTurner_93 fl12_192 (kR14 hS69.1 ta1) ((hS69.cell ta1 (by decide +kernel)).trans c85) ?_
    refine q_iconst dX12_readTurner_96 (by decide) ?_
    intro v87 h88
    refine q_isubE dX12_readTurner_97 (by intro j1 j2 j3 j4; exact om_c6626f59 b86.2 b86.1 h88) ?_
    intro v89 h90
    refine q_callVi hE (M' := mX12_readPart) (as := [_, _, _]) dX12_readTurner_98 lk12_249 inX12_readPart seX12_readPart myX12_readPart (by decide) ⟨by decide, by decide⟩ rfl (kR15 hS69.1 ta0) (Nat.le_of_ble_eq_true rfl) rfl rfl (by decide) (by decide) (k_X12_readPart hS69.1 ta0 (by decide)) ?_
    rintro v95 cn' K' N' I91 R92 L93 ⟨rfl, rfl, rfl, rfl, g94, p96, w97, -⟩
    have hS98 := hS69.tr g94 (by decide +kernel) (by decide +kernel)
    have b99 : 0 ≤ v95.toInt ∧ v95.toInt ≤ 239 := by exact om_62c0eb21 h83 b86.2 b86.1 h88 h90 p96
    clear p96
    have ov100 := w97.over (by rw [c76]; exact om_394b70a2 ov74.1)
    obtain ⟨v101, c102⟩ : ∃ v, I91 a0 9 = v := ⟨_, rfl⟩
    have b103 := iv15_9 hS98.1 ta0 c102
    obtain ⟨v104, c105⟩ : ∃ v, I91 a0 13 = v := ⟨_, rfl⟩
    obtain ⟨v106, c107⟩ : ∃ v, I91 a0 14 = v := ⟨_, rfl⟩
    (try rw [c102] at ov100)
    (try rw [c105] at ov100)
    (try rw [c107] at ov100)
    (try rw [c76] at ov100)
    (try rw [c79] at ov100)
    (try rw [c81] at ov100)
    refine tr_istore dX12_readTurner_101 (by decide) (by decide) ?_
    refine sf_oT103 hE hZ hS98.1 (gB) ta0 (by (try rw [c102]); first | done | with_reducible assumption | exact om_394b70a2 ov100.1) ⟨_, d2⟩ hl0 hl1 hl3 rfl ?_
    rintro I108 R109 L110 ⟨g111, p112, p113, p114, rp115, -⟩
    obtain rfl : R0 = R109 := funext fun a => funext fun j => (g111.2.2 a j (wm_no rfl)).symm
    have hS116 := hS98.tr g111 (by decide +kernel) (by decide +kernel)
    obtain ⟨v117, c118⟩ : ∃ v, I108 a0 9 = v := ⟨_, rfl⟩
    have b119 := iv15_9 hS116.1 ta0 c118
    rw [c118] at p112
    obtain ⟨v120, c121⟩ : ∃ v, I108 a0 13 = v := ⟨_, rfl⟩
    rw [c121] at p113
    rw [c105] at p113
    obtain ⟨v122, c123⟩ : ∃ v, I108 a0 14 = v := ⟨_, rfl⟩
    rw [c123] at p114
    rw [c107] at p114
    exact hq _ _ _ ⟨hS116, (by (try rw [c118]); first | done | with_reducible assumption | omega), (by (try rw [c121]); (try rw [c8]); first | done | with_reducible assumption | exact om_1c22ab7e ov74.2.1 ov100.2.1 p113), (by (try rw [c123]); (try rw [c10]); first | done | with_reducible assumption | exact om_1c22ab7e ov74.2.2 ov100.2.2 p114), (fun b hb => (Option.some.inj (d2.symm.trans hb)) ▸ ((((FrM.rf (R := R0) (b := a1) (T := T)).st g64 (by decide +kernel)).st g94 (by decide +kernel)).st g111 (by decide +kernel))), trivial⟩
def wif_oT17 : List Nat := [968, 969, 970, 971, 972, 973, 974]
def wrf_oT17 : List Nat := []
def wlf_oT17 : List Nat := []
set_option maxHeartbeats 4000000 in
theorem sf_oT17 {X : cz_X} (hE : cz_env X) {T : Nat → Nat} {cn : Nat} {K N : Nat → Nat} {I0 : cz_I} {R0 : cz_R} {L0 : cz_L} {Q : cz_Q} (hZ : cz_Z X mX12_readTurner Q) (hW0 : Wf T cn K N I0 R0 0) (gB : cz_B) {a0 : Nat} (ta0 : T a0 = 15) {y1 : Int64} (pre0 : (I0 a0 9).toInt = 5) (nn4 : ∃ b, R0 a0 4 = some b) {ls : Nat → Option Value} (hl0 : ls 0 = some (.ref a0)) (hl1 : ls 1 = some (.long y1)) (hq : ∀ (I' : cz_I) (R' : cz_R) (L' : cz_L), St T cn K N 0 wif_oT17 wrf_oT17 I0 R0 I' R' ∧ ((I' a0 9).toInt = 5) ∧ ((I' a0 13).toInt = (I0 a0 13).toInt) ∧ ((I' a0 14).toInt = (I0 a0 14).toInt) ∧ (∀ b, R0 a0 4 = some b → FrM R0 b T I0 I') ∧ True → Q none cn K N I' R' L') : Tr X mX12_readTurner 17 ls [] cn K N I0 R0 L0 0 0 := by
  have hS0 : St T cn K N 0 wif_oT17 wrf_oT17 I0 R0 I0 R0 := St.rf0 hW0
  have hL0 : LgS T wlf_oT17 L0 L0 := LgS.rf0
  obtain ⟨a1, d2⟩ := nn4
  have ta1 : T a1 = 14 := hW0.rsN ta0 rfl d2
  obtain ⟨v3, c4⟩ : ∃ v, I0 a0 9 = v := ⟨_, rfl⟩
  have b5 := iv15_9 hS0.1 ta0 c4
  have p6 := pre0
  rw [c4] at p6
  obtain ⟨v7, c8⟩ : ∃ v, I0 a0 13 = v := ⟨_, rfl⟩
  obtain ⟨v9, c10⟩ : ∃ v, I0 a0 14 = v := ⟨_, rfl⟩
  refine tr_aload_n dX12_readTurner_17 hl0 ?_
  refine tr_ldcwS dX12_readTurner_18 ld12_318 ?_
  refine q_callVi hE (M' := mX12_eatsWord) (as := [_]) dX12_readTurner_21 lk12_290 inX12_eatsWord seX12_eatsWord myX12_eatsWord (by decide) ⟨by decide, by decide⟩ rfl (kR15 hS0.1 ta0) (Nat.le_of_ble_eq_true rfl) rfl rfl (by decide) (by decide) (k_X12_eatsWord hS0.1 ta0 (by decide)) ?_
  rintro v15 cn' K' N' I11 R12 L13 ⟨rfl, rfl, rfl, rfl, g14, h16, w17, -⟩
  have hS18 := hS0.tr g14 (by decide +kernel) (by decide +kernel)
  have c19 : I11 a0 13 = v7 := (g14.cell ta0 (by decide +kernel)).trans c8
  have c20 : I11 a0 14 = v9 := (g14.cell ta0 (by decide +kernel)).trans c10
  have ov21 := w17.over (by rw [c4]; exact om_394b70a2 p6)
  obtain ⟨v22, c23⟩ : ∃ v, I11 a0 9 = v := ⟨_, rfl⟩
  have b24 := iv15_9 hS18.1 ta0 c23
  obtain ⟨v25, c26⟩ : ∃ v, I11 a0 13 = v := ⟨_, rfl⟩
  obtain ⟨v27, c28⟩ : ∃ v, I11 a0 14 = v := ⟨_, rfl⟩
  (try rw [c23] at ov21)
  (try rw [c26] at ov21)
  (try rw [c28] at ov21)
  (try rw [c4] at ov21)
  (try rw [c8] at ov21)
  (try rw [c10] at ov21)
  refine q_if_eq 31 dX12_readTurner_24 (by decide) (fun h29 => ?_) (fun h29 => ?_)
  · skip
    refine tr_aload_n dX12_readTurner_31 hl0 ?_
    refine tr_ldcwS dX12_readTurner_32 ld12_320 ?_
    refine q_callVi hE (M' := mX12_eatsWord) (as := [_]) dX12_readTurner_35 lk12_290 inX12_eatsWord seX12_eatsWord myX12_eatsWord (by decide) ⟨by decide, by decide⟩ rfl (kR15 hS18.1 ta0) (Nat.le_of_ble_eq_true rfl) rfl rfl (by decide) (by decide) (k_X12_eatsWord hS18.1 ta0 (by decide)) ?_
    rintro v34 cn' K' N' I30 R31 L32 ⟨rfl, rfl, rfl, rfl, g33, h35, w36, -⟩
    have hS37 := hS18.tr g33 (by decide +kernel) (by decide +kernel)
    have c38 : I30 a0 13 = v25 := (g33.cell ta0 (by decide +kernel)).trans c26
    have c39 : I30 a0 14 = v27 := (g33.cell ta0 (by decide +kernel)).trans c28
    have ov40 := w36.over (by rw [c23]; exact om_394b70a2 ov21.1)
    obtain ⟨v41, c42⟩ : ∃ v, I30 a0 9 = v := ⟨_, rfl⟩
    have b43 := iv15_9 hS37.1 ta0 c42
    obtain ⟨v44, c45⟩ : ∃ v, I30 a0 13 = v := ⟨_, rfl⟩
    obtain ⟨v46, c47⟩ : ∃ v, I30 a0 14 = v := ⟨_, rfl⟩
    (try rw [c42] at ov40)
    (try rw [c45] at ov40)
    (try rw [c47] at ov40)
    (try rw [c23] at ov40)
    (try rw [c26] at ov40)
    (try rw [c28] at ov40)
    refine q_if_eq 45 dX12_readTurner_38 (by decide) (fun h48 => ?_) (fun h48 => ?_)
    · skip
      refine tr_aload_n dX12_readTurner_45 hl0 ?_
      refine tr_ldcwS dX12_readTurner_46 ld12_322 ?_
      refine q_callVi hE (M' := mX12_eatsWord) (as := [_]) dX12_readTurner_49 lk12_290 inX12_eatsWord seX12_eatsWord myX12_eatsWord (by decide) ⟨by decide, by decide⟩ rfl (kR15 hS37.1 ta0) (Nat.le_of_ble_eq_true rfl) rfl rfl (by decide) (by decide) (k_X12_eatsWord hS37.1 ta0 (by decide)) ?_
      rintro v53 cn' K' N' I49 R50 L51 ⟨rfl, rfl, rfl, rfl, g52, h54, w55, -⟩
      have hS56 := hS37.tr g52 (by decide +kernel) (by decide +kernel)
      have c57 : I49 a0 13 = v44 := (g52.cell ta0 (by decide +kernel)).trans c45
      have c58 : I49 a0 14 = v46 := (g52.cell ta0 (by decide +kernel)).trans c47
      have ov59 := w55.over (by rw [c42]; exact om_394b70a2 ov40.1)
      obtain ⟨v60, c61⟩ : ∃ v, I49 a0 9 = v := ⟨_, rfl⟩
      have b62 := iv15_9 hS56.1 ta0 c61
      obtain ⟨v63, c64⟩ : ∃ v, I49 a0 13 = v := ⟨_, rfl⟩
      obtain ⟨v65, c66⟩ : ∃ v, I49 a0 14 = v := ⟨_, rfl⟩
      (try rw [c61] at ov59)
      (try rw [c64] at ov59)
      (try rw [c66] at ov59)
      (try rw [c42] at ov59)
      (try rw [c45] at ov59)
      (try rw [c47] at ov59)
      refine q_if_eq 59 dX12_readTurner_52 (by decide) (fun h67 => ?_) (fun h67 => ?_)
      · skip
        refine tr_aload_n dX12_readTurner_59 hl0 ?_
        refine tr_ldcS dX12_readTurner_60 ld12_178 ?_
        refine q_callVi hE (M' := mX12_eatsWord) (as := [_]) dX12_readTurner_62 lk12_290 inX12_eatsWord seX12_eatsWord myX12_eatsWord (by decide) ⟨by decide, by decide⟩ rfl (kR15 hS56.1 ta0) (Nat.le_of_ble_eq_true rfl) rfl rfl (by decide) (by decide) (k_X12_eatsWord hS56.1 ta0 (by decide)) ?_
        rintro v72 cn' K' N' I68 R69 L70 ⟨rfl, rfl, rfl, rfl, g71, h73, w74, -⟩
        have hS75 := hS56.tr g71 (by decide +kernel) (by decide +kernel)
        have c76 : I68 a0 13 = v63 := (g71.cell ta0 (by decide +kernel)).trans c64
        have c77 : I68 a0 14 = v65 := (g71.cell ta0 (by decide +kernel)).trans c66
        have ov78 := w74.over (by rw [c61]; exact om_394b70a2 ov59.1)
        obtain ⟨v79, c80⟩ : ∃ v, I68 a0 9 = v := ⟨_, rfl⟩
        have b81 := iv15_9 hS75.1 ta0 c80
        obtain ⟨v82, c83⟩ : ∃ v, I68 a0 13 = v := ⟨_, rfl⟩
        obtain ⟨v84, c85⟩ : ∃ v, I68 a0 14 = v := ⟨_, rfl⟩
        (try rw [c80] at ov78)
        (try rw [c83] at ov78)
        (try rw [c85] at ov78)
        (try rw [c61] at ov78)
        (try rw [c64] at ov78)
        (try rw [c66] at ov78)
        refine q_if_eq 72 dX12_readTurner_65 (by decide) (fun h86 => ?_) (fun h86 => ?_)
        · skip
          refine q_iconst dX12_readTurner_72 (by decide) ?_
          intro v87 h88
          refine tr_istore_n dX12_readTurner_73 (by decide) (by decide) ?_
          refine sf_oT74 hE hZ hS75.1 (gB) ta0 (by (try rw [c80]); first | done | with_reducible assumption | exact om_394b70a2 ov78.1) ⟨_, d2⟩ hl0 hl1 rfl ?_
          rintro I89 R90 L91 ⟨g92, p93, p94, p95, rp96, -⟩
          obtain rfl : R0 = R90 := funext fun a => funext fun j => (g92.2.2 a j (wm_no rfl)).symm
          have hS97 := hS75.tr g92 (by decide +kernel) (by decide +kernel)
          obtain ⟨v98, c99⟩ : ∃ v, I89 a0 9 = v := ⟨_, rfl⟩
          have b100 := iv15_9 hS97.1 ta0 c99
          rw [c99] at p93
          obtain ⟨v101, c102⟩ : ∃ v, I89 a0 13 = v := ⟨_, rfl⟩
          rw [c102] at p94
          rw [c83] at p94
          obtain ⟨v103, c104⟩ : ∃ v, I89 a0 14 = v := ⟨_, rfl⟩
          rw [c104] at p95
          rw [c85] at p95
          exact hq _ _ _ ⟨hS97, (by (try rw [c99]); first | done | with_reducible assumption | omega), (by (try rw [c102]); (try rw [c8]); first | done | with_reducible assumption | exact om_26539cac ov21.2.1 ov40.2.1 ov59.2.1 ov78.2.1 p94), (by (try rw [c104]); (try rw [c10]); first | done | with_reducible assumption | exact om_26539cac ov21.2.2 ov40.2.2 ov59.2.2 ov78.2.2 p95), (fun b hb => (Option.some.inj (d2.symm.trans hb)) ▸ ((((((FrM.rf (R := R0) (b := a1) (T := T)).st g14 (by decide +kernel)).st g33 (by decide +kernel)).st g52 (by decide +kernel)).st g71 (by decide +kernel)).st g92 (by decide +kernel))), trivial⟩
        · skip
          refine q_iconst dX12_readTurner_68 (by decide) ?_
          intro v105 h106
          refine tr_goto 73 dX12_readTurner_69 (by decide) ?_
          refine tr_istore_n dX12_readTurner_73 (by decide) (by decide) ?_
          refine sf_oT74 hE hZ hS75.1 (gB) ta0 (by (try rw [c80]); first | done | with_reducible assumption | exact om_394b70a2 ov78.1) ⟨_, d2⟩ hl0 hl1 rfl ?_
          rintro I107 R108 L109 ⟨g110, p111, p112, p113, rp114, -⟩
          obtain rfl : R0 = R108 := funext fun a => funext fun j => (g110.2.2 a j (wm_no rfl)).symm
          have hS115 := hS75.tr g110 (by decide +kernel) (by decide +kernel)
          obtain ⟨v116, c117⟩ : ∃ v, I107 a0 9 = v := ⟨_, rfl⟩
          have b118 := iv15_9 hS115.1 ta0 c117
          rw [c117] at p111
          obtain ⟨v119, c120⟩ : ∃ v, I107 a0 13 = v := ⟨_, rfl⟩
          rw [c120] at p112
          rw [c83] at p112
          obtain ⟨v121, c122⟩ : ∃ v, I107 a0 14 = v := ⟨_, rfl⟩
          rw [c122] at p113
          rw [c85] at p113
          exact hq _ _ _ ⟨hS115, (by (try rw [c117]); first | done | with_reducible assumption | omega), (by (try rw [c120]); (try rw [c8]); first | done | with_reducible assumption | exact om_26539cac ov21.2.1 ov40.2.1 ov59.2.1 ov78.2.1 p112), (by (try rw [c122]); (try rw [c10]); first | done | with_reducible assumption | exact om_26539cac ov21.2.2 ov40.2.2 ov59.2.2 ov78.2.2 p113), (fun b hb => (Option.some.inj (d2.symm.trans hb)) ▸ ((((((FrM.rf (R := R0) (b := a1) (T := T)).st g14 (by decide +kernel)).st g33 (by decide +kernel)).st g52 (by decide +kernel)).st g71 (by decide +kernel)).st g110 (by decide +kernel))), trivial⟩
      · skip
        refine q_iconst dX12_readTurner_55 (by decide) ?_
        intro v123 h124
        refine tr_goto 73 dX12_readTurner_56 (by decide) ?_
        refine tr_istore_n dX12_readTurner_73 (by decide) (by decide) ?_
        refine sf_oT74 hE hZ hS56.1 (gB) ta0 (by (try rw [c61]); first | done | with_reducible assumption | exact om_394b70a2 ov59.1) ⟨_, d2⟩ hl0 hl1 rfl ?_
        rintro I125 R126 L127 ⟨g128, p129, p130, p131, rp132, -⟩
        obtain rfl : R0 = R126 := funext fun a => funext fun j => (g128.2.2 a j (wm_no rfl)).symm
        have hS133 := hS56.tr g128 (by decide +kernel) (by decide +kernel)
        obtain ⟨v134, c135⟩ : ∃ v, I125 a0 9 = v := ⟨_, rfl⟩
        have b136 := iv15_9 hS133.1 ta0 c135
        rw [c135] at p129
        obtain ⟨v137, c138⟩ : ∃ v, I125 a0 13 = v := ⟨_, rfl⟩
        rw [c138] at p130
        rw [c64] at p130
        obtain ⟨v139, c140⟩ : ∃ v, I125 a0 14 = v := ⟨_, rfl⟩
        rw [c140] at p131
        rw [c66] at p131
        exact hq _ _ _ ⟨hS133, (by (try rw [c135]); first | done | with_reducible assumption | omega), (by (try rw [c138]); (try rw [c8]); first | done | with_reducible assumption | exact om_751d021b ov21.2.1 ov40.2.1 ov59.2.1 p130), (by (try rw [c140]); (try rw [c10]); first | done | with_reducible assumption | exact om_751d021b ov21.2.2 ov40.2.2 ov59.2.2 p131), (fun b hb => (Option.some.inj (d2.symm.trans hb)) ▸ (((((FrM.rf (R := R0) (b := a1) (T := T)).st g14 (by decide +kernel)).st g33 (by decide +kernel)).st g52 (by decide +kernel)).st g128 (by decide +kernel))), trivial⟩
    · skip
      refine q_iconst dX12_readTurner_41 (by decide) ?_
      intro v141 h142
      refine tr_goto 73 dX12_readTurner_42 (by decide) ?_
      refine tr_istore_n dX12_readTurner_73 (by decide) (by decide) ?_
      refine sf_oT74 hE hZ hS37.1 (gB) ta0 (by (try rw [c42]); first | done | with_reducible assumption | exact om_394b70a2 ov40.1) ⟨_, d2⟩ hl0 hl1 rfl ?_
      rintro I143 R144 L145 ⟨g146, p147, p148, p149, rp150, -⟩
      obtain rfl : R0 = R144 := funext fun a => funext fun j => (g146.2.2 a j (wm_no rfl)).symm
      have hS151 := hS37.tr g146 (by decide +kernel) (by decide +kernel)
      obtain ⟨v152, c153⟩ : ∃ v, I143 a0 9 = v := ⟨_, rfl⟩
      have b154 := iv15_9 hS151.1 ta0 c153
      rw [c153] at p147
      obtain ⟨v155, c156⟩ : ∃ v, I143 a0 13 = v := ⟨_, rfl⟩
      rw [c156] at p148
      rw [c45] at p148
      obtain ⟨v157, c158⟩ : ∃ v, I143 a0 14 = v := ⟨_, rfl⟩
      rw [c158] at p149
      rw [c47] at p149
      exact hq _ _ _ ⟨hS151, (by (try rw [c153]); first | done | with_reducible assumption | omega), (by (try rw [c156]); (try rw [c8]); first | done | with_reducible assumption | exact om_1c22ab7e ov21.2.1 ov40.2.1 p148), (by (try rw [c158]); (try rw [c10]); first | done | with_reducible assumption | exact om_1c22ab7e ov21.2.2 ov40.2.2 p149), (fun b hb => (Option.some.inj (d2.symm.trans hb)) ▸ ((((FrM.rf (R := R0) (b := a1) (T := T)).st g14 (by decide +kernel)).st g33 (by decide +kernel)).st g146 (by decide +kernel))), trivial⟩
  · skip
    refine q_iconst dX12_readTurner_27 (by decide) ?_
    intro v159 h160
    refine tr_goto 73 dX12_readTurner_28 (by decide) ?_
    refine tr_istore_n dX12_readTurner_73 (by decide) (by decide) ?_
    refine sf_oT74 hE hZ hS18.1 (gB) ta0 (by (try rw [c23]); first | done | with_reducible assumption | exact om_394b70a2 ov21.1) ⟨_, d2⟩ hl0 hl1 rfl ?_
    rintro I161 R162 L163 ⟨g164, p165, p166, p167, rp168, -⟩
    obtain rfl : R0 = R162 := funext fun a => funext fun j => (g164.2.2 a j (wm_no rfl)).symm
    have hS169 := hS18.tr g164 (by decide +kernel) (by decide +kernel)
    obtain ⟨v170, c171⟩ : ∃ v, I161 a0 9 = v := ⟨_, rfl⟩
    have b172 := iv15_9 hS169.1 ta0 c171
    rw [c171] at p165
    obtain ⟨v173, c174⟩ : ∃ v, I161 a0 13 = v := ⟨_, rfl⟩
    rw [c174] at p166
    rw [c26] at p166
    obtain ⟨v175, c176⟩ : ∃ v, I161 a0 14 = v := ⟨_, rfl⟩
    rw [c176] at p167
    rw [c28] at p167
    exact hq _ _ _ ⟨hS169, (by (try rw [c171]); first | done | with_reducible assumption | omega), (by (try rw [c174]); (try rw [c8]); first | done | with_reducible assumption | exact om_9fa72578 ov21.2.1 p166), (by (try rw [c176]); (try rw [c10]); first | done | with_reducible assumption | exact om_9fa72578 ov21.2.2 p167), (fun b hb => (Option.some.inj (d2.symm.trans hb)) ▸ (((FrM.rf (R := R0) (b := a1) (T := T)).st g14 (by decide +kernel)).st g164 (by decide +kernel))), trivial⟩
def wif_oT12 : List Nat := [968, 969, 970, 971, 972, 973, 974]
def wrf_oT12 : List Nat := []
def wlf_oT12 : List Nat := []
set_option maxHeartbeats 4000000 in
theorem sf_oT12 {X : cz_X} (hE : cz_env X) {T : Nat → Nat} {cn : Nat} {K N : Nat → Nat} {I0 : cz_I} {R0 : cz_R} {L0 : cz_L} {Q : cz_Q} (hZ : cz_Z X mX12_readTurner Q) (hW0 : Wf T cn K N I0 R0 0) (gB : cz_B) {a0 : Nat} (ta0 : T a0 = 15) (pre0 : (I0 a0 9).toInt = 5) (nn4 : ∃ b, R0 a0 4 = some b) {ls : Nat → Option Value} (hl0 : ls 0 = some (.ref a0)) (hq : ∀ (I' : cz_I) (R' : cz_R) (L' : cz_L), St T cn K N 0 wif_oT12 wrf_oT12 I0 R0 I' R' ∧ ((I' a0 9).toInt = 5) ∧ ((I' a0 13).toInt = (I0 a0 13).toInt) ∧ ((I' a0 14).toInt = (I0 a0 14).toInt) ∧ (∀ b, R0 a0 4 = some b → FrM R0 b T I0 I') ∧ True → Q none cn K N I' R' L') : Tr X mX12_readTurner 12 ls [] cn K N I0 R0 L0 0 0 := by
  have hS0 : St T cn K N 0 wif_oT12 wrf_oT12 I0 R0 I0 R0 := St.rf0 hW0
  have hL0 : LgS T wlf_oT12 L0 L0 := LgS.rf0
  obtain ⟨a1, d2⟩ := nn4
  have ta1 : T a1 = 14 := hW0.rsN ta0 rfl d2
  obtain ⟨v3, c4⟩ : ∃ v, I0 a0 9 = v := ⟨_, rfl⟩
  have b5 := iv15_9 hS0.1 ta0 c4
  have p6 := pre0
  rw [c4] at p6
  obtain ⟨v7, c8⟩ : ∃ v, I0 a0 13 = v := ⟨_, rfl⟩
  obtain ⟨v9, c10⟩ : ∃ v, I0 a0 14 = v := ⟨_, rfl⟩
  refine tr_aload_n dX12_readTurner_12 hl0 ?_
  refine q_callVl hE (M' := mX12_readFresh) (as := []) dX12_readTurner_13 lk12_285 inX12_readFresh seX12_readFresh myX12_readFresh (by decide) ⟨by decide, by decide⟩ rfl (kR15 hS0.1 ta0) (Nat.le_of_ble_eq_true rfl) rfl rfl (by decide) (by decide) (k_X12_readFresh hS0.1 ta0 ⟨_, d2⟩) ?_
  rintro y15 cn' K' N' I11 R12 L13 ⟨rfl, rfl, rfl, rfl, g14, w16, -⟩
  have hS17 := hS0.tr g14 (by decide +kernel) (by decide +kernel)
  have ov18 := w16.over (by rw [c4]; exact om_394b70a2 p6)
  obtain ⟨v19, c20⟩ : ∃ v, I11 a0 9 = v := ⟨_, rfl⟩
  have b21 := iv15_9 hS17.1 ta0 c20
  obtain ⟨v22, c23⟩ : ∃ v, I11 a0 13 = v := ⟨_, rfl⟩
  obtain ⟨v24, c25⟩ : ∃ v, I11 a0 14 = v := ⟨_, rfl⟩
  (try rw [c20] at ov18)
  (try rw [c23] at ov18)
  (try rw [c25] at ov18)
  (try rw [c4] at ov18)
  (try rw [c8] at ov18)
  (try rw [c10] at ov18)
  refine tr_lstore_n dX12_readTurner_16 (by decide) (by decide) (by decide) ?_
  refine sf_oT17 hE hZ hS17.1 (gB) ta0 (by (try rw [c20]); first | done | with_reducible assumption | exact om_394b70a2 ov18.1) ⟨_, d2⟩ hl0 rfl ?_
  rintro I26 R27 L28 ⟨g29, p30, p31, p32, rp33, -⟩
  obtain rfl : R0 = R27 := funext fun a => funext fun j => (g29.2.2 a j (wm_no rfl)).symm
  have hS34 := hS17.tr g29 (by decide +kernel) (by decide +kernel)
  obtain ⟨v35, c36⟩ : ∃ v, I26 a0 9 = v := ⟨_, rfl⟩
  have b37 := iv15_9 hS34.1 ta0 c36
  rw [c36] at p30
  obtain ⟨v38, c39⟩ : ∃ v, I26 a0 13 = v := ⟨_, rfl⟩
  rw [c39] at p31
  rw [c23] at p31
  obtain ⟨v40, c41⟩ : ∃ v, I26 a0 14 = v := ⟨_, rfl⟩
  rw [c41] at p32
  rw [c25] at p32
  exact hq _ _ _ ⟨hS34, (by (try rw [c36]); first | done | with_reducible assumption | omega), (by (try rw [c39]); (try rw [c8]); first | done | with_reducible assumption | exact om_9fa72578 ov18.2.1 p31), (by (try rw [c41]); (try rw [c10]); first | done | with_reducible assumption | exact om_9fa72578 ov18.2.2 p32), (fun b hb => (Option.some.inj (d2.symm.trans hb)) ▸ (((FrM.rf (R := R0) (b := a1) (T := T)).st g14 (by decide +kernel)).st g29 (by decide +kernel))), trivial⟩
def wik_X12_readTurner : List Nat := [900, 903, 968, 969, 970, 971, 972, 973, 974, 4095, 4159, 4223, 4287, 4351, 4415, 4799, 4863]
def wrk_X12_readTurner : List Nat := []
def wlk_X12_readTurner : List Nat := [975, 4735]
set_option maxHeartbeats 4000000 in
theorem fk_X12_readTurner {l : Launch} {T : Nat → Nat} {cn : Nat} {K N : Nat → Nat} {I0 : cz_I} {R0 : cz_R} {L0 : cz_L} (hW0 : Wf T cn K N I0 R0 0) (gB : cz_B) (gs : Int) (gQ : Nat → Int) {a0 : Nat} (ta0 : T a0 = 15) (hT : ∀ t, R0 a0 5 = some t → Tx I0 t gB) (hN : ∀ b, R0 a0 4 = some b → NmM I0 R0 L0 b gQ) (pre0 : (I0 a0 9).toInt = (tkM gB gs)) (pre1 : (I0 a0 9).toInt ≤ 4) (pre2 : (I0 a0 10).toInt = (tkS gB gs)) (pre3 : (I0 a0 11).toInt = (tkG gB gs)) (pre4 : (AtW ((tkK gB gs)) ((L0 a0 15).toInt) ((tkW gB gs)))) (pre5 : (AtV ((tkK gB gs)) ((I0 a0 12).toInt) ((tkV gB gs)))) (pre6 : (AtN ((tkK gB gs)) ((I0 a0 8).toInt) ((tkN gB gs)))) (pre7 : (I0 a0 7).toInt = (gB.2)) (pre8 : ∀ b1, R0 a0 4 = some b1 → (I0 b1 0).toInt = (gQ 0)) (pre9 : ∀ b1, R0 a0 4 = some b1 → (I0 b1 1).toInt = (gQ 1)) (pre10 : ∀ b1, R0 a0 4 = some b1 → (I0 b1 2).toInt = (gQ 2)) (pre11 : ∀ b1, R0 a0 4 = some b1 → (I0 b1 3).toInt = (gQ 3)) (pre12 : ∀ b1, R0 a0 4 = some b1 → (I0 b1 4).toInt = (gQ 4)) (pre13 : ∀ b1, R0 a0 4 = some b1 → (I0 b1 5).toInt = (gQ 5)) (pre14 : ∀ b1, R0 a0 4 = some b1 → (I0 b1 6).toInt = (gQ 6)) (pre15 : ∀ b1, R0 a0 4 = some b1 → (I0 b1 9).toInt = (gQ 8)) (pre16 : (Q7M ((gQ 0)) ((gQ 7)))) (pre17 : (tkK gB gs) = 1) (pre18 : (srt gB gs) = 7) (nn4 : ∃ b, R0 a0 4 = some b) : ConE l mX12_readTurner [.ref a0] cn K N I0 R0 L0 (ca_v (fun cn' K' N' I' R' L' => cn = cn' ∧ K = K' ∧ N = N' ∧ R0 = R' ∧ St T cn K N 0 wik_X12_readTurner wrk_X12_readTurner I0 R0 I' R0 ∧ (∀ b, R0 a0 4 = some b → FrM R0 b T I0 I') ∧ (∀ dr, R0 a0 4 = some dr → FrO 14 dr T I0 I') ∧ ((((lnF gB gQ gs) = 0) ∧ (∀ b1, R0 a0 4 = some b1 → (I' b1 0).toInt = (lnQ gB gQ gs 0)) ∧ (∀ b1, R0 a0 4 = some b1 → (I' b1 1).toInt = (lnQ gB gQ gs 1)) ∧ (∀ b1, R0 a0 4 = some b1 → (I' b1 2).toInt = (lnQ gB gQ gs 2)) ∧ (∀ b1, R0 a0 4 = some b1 → (I' b1 3).toInt = (lnQ gB gQ gs 3)) ∧ (∀ b1, R0 a0 4 = some b1 → (I' b1 4).toInt = (lnQ gB gQ gs 4)) ∧ (∀ b1, R0 a0 4 = some b1 → (I' b1 5).toInt = (lnQ gB gQ gs 5)) ∧ (∀ b1, R0 a0 4 = some b1 → (I' b1 6).toInt = (lnQ gB gQ gs 6)) ∧ (∀ b1, R0 a0 4 = some b1 → (I' b1 9).toInt = (lnQ gB gQ gs 8)) ∧ ((I' a0 13).toInt = (I0 a0 13).toInt) ∧ ((I' a0 9).toInt = (tkM gB (lnS gB gQ gs))) ∧ ((I' a0 9).toInt ≤ 4) ∧ ((I' a0 10).toInt = (tkS gB (lnS gB gQ gs))) ∧ ((I' a0 11).toInt = (tkG gB (lnS gB gQ gs))) ∧ ((AtW ((tkK gB (lnS gB gQ gs))) ((L' a0 15).toInt) ((tkW gB (lnS gB gQ gs))))) ∧ ((AtV ((tkK gB (lnS gB gQ gs))) ((I' a0 12).toInt) ((tkV gB (lnS gB gQ gs))))) ∧ ((AtN ((tkK gB (lnS gB gQ gs))) ((I' a0 8).toInt) ((tkN gB (lnS gB gQ gs))))) ∧ LgS T wlk_X12_readTurner L0 L' ∧ (∀ b, R0 a0 4 = some b → NmM I' R0 L' b (lnQ gB gQ gs)) ∧ (∀ E b, R0 a0 4 = some b → AlM I0 R0 b gQ E → AlM I' R0 b (lnQ gB gQ gs) (lnE gB gQ gs E)) ∧ True) ∨ (((lnF gB gQ gs) ≠ 0) ∧ ((I' a0 9).toInt = 5) ∧ ((I' a0 13).toInt = (lnF gB gQ gs)) ∧ ((I' a0 14).toInt = (lnP gB gQ gs)) ∧ True)) ∧ True)) := by
  refine ConE.of (by decide +kernel) rfl (Nat.le_of_ble_eq_true rfl) rfl (fun X hX hZ hE => ?_)
  subst hX
  have hS0 : St T cn K N 0 wik_X12_readTurner wrk_X12_readTurner I0 R0 I0 R0 := St.rf0 hW0
  have hL0 : LgS T wlk_X12_readTurner L0 L0 := LgS.rf0
  obtain ⟨a1, d2⟩ := nn4
  have ta1 : T a1 = 14 := hW0.rsN ta0 rfl d2
  obtain ⟨v3, c4⟩ : ∃ v, I0 a0 9 = v := ⟨_, rfl⟩
  have b5 := iv15_9 hS0.1 ta0 c4
  have p6 := pre0
  rw [c4] at p6
  have p7 := pre1
  rw [c4] at p7
  obtain ⟨v8, c9⟩ : ∃ v, I0 a0 10 = v := ⟨_, rfl⟩
  have b10 := iv15_10 hS0.1 ta0 c9
  have p11 := pre2
  rw [c9] at p11
  obtain ⟨v12, c13⟩ : ∃ v, I0 a0 11 = v := ⟨_, rfl⟩
  have p14 := pre3
  rw [c13] at p14
  obtain ⟨y15, c16⟩ : ∃ v, L0 a0 15 = v := ⟨_, rfl⟩
  have p17 := pre4
  rw [c16] at p17
  obtain ⟨v18, c19⟩ : ∃ v, I0 a0 12 = v := ⟨_, rfl⟩
  have p20 := pre5
  rw [c19] at p20
  obtain ⟨v21, c22⟩ : ∃ v, I0 a0 8 = v := ⟨_, rfl⟩
  have b23 := iv15_8 hS0.1 ta0 c22
  have p24 := pre6
  rw [c22] at p24
  obtain ⟨v25, c26⟩ : ∃ v, I0 a0 7 = v := ⟨_, rfl⟩
  have b27 := iv15_7 hW0 ta0 c26
  have p28 := pre7
  rw [c26] at p28
  obtain ⟨v29, c30⟩ : ∃ v, I0 a1 0 = v := ⟨_, rfl⟩
  have b31 := iv14_0 hW0 ta1 c30
  have p32 := pre8 _ d2
  rw [c30] at p32
  obtain ⟨v33, c34⟩ : ∃ v, I0 a1 1 = v := ⟨_, rfl⟩
  have b35 := iv14_1 hW0 ta1 c34
  have p36 := pre9 _ d2
  rw [c34] at p36
  obtain ⟨v37, c38⟩ : ∃ v, I0 a1 2 = v := ⟨_, rfl⟩
  have b39 := iv14_2 hW0 ta1 c38
  have p40 := pre10 _ d2
  rw [c38] at p40
  obtain ⟨v41, c42⟩ : ∃ v, I0 a1 3 = v := ⟨_, rfl⟩
  have b43 := iv14_3 hW0 ta1 c42
  have p44 := pre11 _ d2
  rw [c42] at p44
  obtain ⟨v45, c46⟩ : ∃ v, I0 a1 4 = v := ⟨_, rfl⟩
  have b47 := iv14_4 hS0.1 ta1 c46
  have p48 := pre12 _ d2
  rw [c46] at p48
  obtain ⟨v49, c50⟩ : ∃ v, I0 a1 5 = v := ⟨_, rfl⟩
  have b51 := iv14_5 hW0 ta1 c50
  have p52 := pre13 _ d2
  rw [c50] at p52
  obtain ⟨v53, c54⟩ : ∃ v, I0 a1 6 = v := ⟨_, rfl⟩
  have b55 := iv14_6 hW0 ta1 c54
  have p56 := pre14 _ d2
  rw [c54] at p56
  obtain ⟨v57, c58⟩ : ∃ v, I0 a1 9 = v := ⟨_, rfl⟩
  have b59 := iv14_9 hW0 ta1 c58
  have p60 := pre15 _ d2
  rw [c58] at p60
  have p61 := pre16
  have p62 := pre17
  have p63 := pre18
  obtain ⟨v64, c65⟩ : ∃ v, I0 a0 13 = v := ⟨_, rfl⟩
  have hM0 := hN _ d2
  have hO0 : FrO 14 a1 T I0 I0 := FrO.rf
  obtain ⟨a66, d67, ta66⟩ := rf14_20 hW0 ta1
  obtain ⟨a68, d69, ta68⟩ := rf14_21 hW0 ta1
  obtain ⟨a70, d71, ta70⟩ := rf14_22 hW0 ta1
  obtain ⟨a72, d73, ta72⟩ := rf14_23 hW0 ta1
  obtain ⟨a74, d75, ta74⟩ := rf14_24 hW0 ta1
  obtain ⟨a76, d77, ta76⟩ := rf14_25 hW0 ta1
  have hF := lnF_ch gB gQ gs
  have hP := lnP_ch gB gQ gs
  replace hF := hF.neg (by exact om_b2533929 pre18)
  replace hP := hP.neg (by exact om_b2533929 pre18)
  replace hF := hF.neg (by exact om_b8b780f2 pre18)
  replace hP := hP.neg (by exact om_b8b780f2 pre18)
  refine tr_aload_n dX12_readTurner_0 rfl ?_
  refine tr_aload_n dX12_readTurner_1 rfl ?_
  refine tr_getR dX12_readTurner_2 fl12_188 (kR15 hS0.1 ta0) d2 ?_
  refine q_getI dX12_readTurner_5 fl12_315 (kR14 hS0.1 ta1) c46 ?_
  refine q_iconst dX12_readTurner_8 (by decide) ?_
  intro v78 h79
  refine q_callVv hE (M' := mX12_begins) (as := [_, _]) dX12_readTurner_9 lk12_268 inX12_begins seX12_begins myX12_begins (by decide) ⟨by decide, by decide⟩ rfl (kR15 hS0.1 ta0) (Nat.le_of_ble_eq_true rfl) rfl rfl (by decide) (by decide) (fk_X12_begins hS0.1 (gB) (gs) (gQ) ta0 (TxA.kp hT hS0 ta0 rfl rfl rfl (by decide +kernel) (by decide +kernel)) (by (try rw [c4]); first | done | with_reducible assumption | omega) (by (try rw [c4]); first | done | with_reducible assumption | omega) (by (try rw [c9]); first | done | with_reducible assumption | omega) (by (try rw [c13]); first | done | with_reducible assumption | omega) (by (try rw [c16]); first | done | assumption) (by (try rw [c19]); first | done | assumption) (by (try rw [c22]); first | done | assumption) (by (try rw [c26]); first | done | with_reducible assumption | omega) (fun q0 z0 => by obtain rfl := Option.some.inj ((d2).symm.trans z0); (try rw [c30]); first | done | with_reducible assumption | omega) (by first | done | with_reducible assumption | omega) ⟨_, d2⟩) ?_
  rintro cn' K' N' I80 R81 L82 ⟨rfl, rfl, rfl, rfl, g83, dj86, -⟩
  have hM87 : NmM I80 R0 L0 a1 gQ := NmM.kpS hM0 g83 hS0.1 ta1 (by decide +kernel) (by decide +kernel)
  have hS88 := hS0.tr g83 (by decide +kernel) (by decide +kernel)
  have c89 : I80 a1 4 = v45 := (g83.cell ta1 (by decide +kernel)).trans c46
  have hO90 : FrO 14 a1 T I0 I80 := hO0.st g83 (by decide +kernel)
  rcases dj86 with ⟨p91, p92, p93, p94, p95, p96, p97, p98, p99, p100, gl101, -⟩ | ⟨p102, p103, p104, p105, -⟩ | ⟨p106, p107, p108, p109, p110, -⟩
  · skip
    have hL111 := hL0.tr gl101 (by decide +kernel)
    have hM112 : NmM I80 R0 L82 a1 gQ := NmM.kpL hM87 gl101 hS88.1 ta1 (by decide +kernel)
    obtain ⟨v113, c114⟩ : ∃ v, I80 a0 13 = v := ⟨_, rfl⟩
    rw [c114] at p93
    rw [c65] at p93
    obtain ⟨v115, c116⟩ : ∃ v, I80 a0 9 = v := ⟨_, rfl⟩
    have b117 := iv15_9 hS88.1 ta0 c116
    rw [c116] at p94
    rw [c116] at p95
    obtain ⟨v118, c119⟩ : ∃ v, I80 a0 10 = v := ⟨_, rfl⟩
    have b120 := iv15_10 hS88.1 ta0 c119
    rw [c119] at p96
    obtain ⟨v121, c122⟩ : ∃ v, I80 a0 11 = v := ⟨_, rfl⟩
    rw [c122] at p97
    obtain ⟨y123, c124⟩ : ∃ v, L82 a0 15 = v := ⟨_, rfl⟩
    rw [c124] at p98
    obtain ⟨v125, c126⟩ : ∃ v, I80 a0 12 = v := ⟨_, rfl⟩
    rw [c126] at p99
    obtain ⟨v127, c128⟩ : ∃ v, I80 a0 8 = v := ⟨_, rfl⟩
    have b129 := iv15_8 hS88.1 ta0 c128
    rw [c128] at p100
    have p130 := p61
    unfold Q7M at p130
    replace hF := hF.neg (by exact om_f8a10a48 pre18 b31.2 b31.1 p32 b47.2 b47.1 p48 h79 p91 p92 p130)
    replace hP := hP.neg (by exact om_f8a10a48 pre18 b31.2 b31.1 p32 b47.2 b47.1 p48 h79 p91 p92 p130)
    replace hF := hF.neg (by exact om_c3d236a5 pre18 p92 p130)
    replace hP := hP.neg (by exact om_c3d236a5 pre18 p92 p130)
    clear p130
    obtain ⟨w131, w132, w133, w134, w135, w136, w137, w138, w139, w140, w141, w142⟩ := lnl_7 (B := gB) (Q := gQ) (s := gs) (by exact om_58805a6b p63)
    replace hF := hF.to w131 (tuF_cx gB gQ (tkN gB gs))
    replace hP := hP.to w132 (tuP_cx gB gQ (tkN gB gs))
    refine tr_aload_n dX12_readTurner_12 rfl ?_
    refine q_callVl hE (M' := mX12_readFresh) (as := []) dX12_readTurner_13 lk12_285 inX12_readFresh seX12_readFresh myX12_readFresh (by decide) ⟨by decide, by decide⟩ rfl (kR15 hS88.1 ta0) (Nat.le_of_ble_eq_true rfl) rfl rfl (by decide) (by decide) (fk_X12_readFresh hS88.1 (gB) ((tkN gB gs)) (gQ) ta0 (TxA.kp hT hS88 ta0 rfl rfl rfl (by decide +kernel) (by decide +kernel)) (fun b hb => (Option.some.inj (d2.symm.trans hb)) ▸ hM112) (by (try rw [c116]); first | done | with_reducible assumption | omega) (by (try rw [c116]); first | done | with_reducible assumption | omega) (by (try rw [c119]); first | done | with_reducible assumption | omega) (by (try rw [c122]); first | done | with_reducible assumption | omega) (by (try rw [c124]); first | done | assumption) (by (try rw [c126]); first | done | assumption) (by (try rw [c128]); first | done | assumption) (by (try rw [((hS88.cell ta0 (by decide +kernel)).trans c26)]); first | done | with_reducible assumption | omega) (fun q0 z0 => by obtain rfl := Option.some.inj ((d2).symm.trans z0); (try rw [((hS88.cell ta1 (by decide +kernel)).trans c42)]); first | done | with_reducible assumption | omega) (fun q0 z0 => by obtain rfl := Option.some.inj ((d2).symm.trans z0); (try rw [c89]); first | done | with_reducible assumption | omega) ⟨_, d2⟩) ?_
    rintro y148 cn' K' N' I143 R144 L145 ⟨rfl, rfl, rfl, rfl, g146, dj149, -⟩
    have hM150 : NmM I143 R0 L82 a1 gQ := NmM.kpS hM112 g146 hS88.1 ta1 (by decide +kernel) (by decide +kernel)
    have hS151 := hS88.tr g146 (by decide +kernel) (by decide +kernel)
    have c152 : I143 a1 4 = v45 := (g146.cell ta1 (by decide +kernel)).trans c89
    have hO153 : FrO 14 a1 T I0 I143 := hO90.st g146 (by decide +kernel)
    rcases dj149 with ⟨p154, p155, p156, p157, p158, p159, p160, p161, p162, p163, p164, p165, p166, gl167, -⟩ | ⟨p168, p169, p170, p171, -⟩ | ⟨p172, p173, p174, p175, p176, -⟩
    · skip
      have hL177 := hL111.tr gl167 (by decide +kernel)
      have hM178 : NmM I143 R0 L145 a1 gQ := NmM.kpL hM150 gl167 hS151.1 ta1 (by decide +kernel)
      obtain ⟨v179, c180⟩ : ∃ v, I143 a0 13 = v := ⟨_, rfl⟩
      rw [c180] at p159
      rw [c114] at p159
      obtain ⟨v181, c182⟩ : ∃ v, I143 a0 9 = v := ⟨_, rfl⟩
      have b183 := iv15_9 hS151.1 ta0 c182
      rw [c182] at p160
      rw [c182] at p161
      obtain ⟨v184, c185⟩ : ∃ v, I143 a0 10 = v := ⟨_, rfl⟩
      have b186 := iv15_10 hS151.1 ta0 c185
      rw [c185] at p162
      obtain ⟨v187, c188⟩ : ∃ v, I143 a0 11 = v := ⟨_, rfl⟩
      rw [c188] at p163
      obtain ⟨y189, c190⟩ : ∃ v, L145 a0 15 = v := ⟨_, rfl⟩
      rw [c190] at p164
      obtain ⟨v191, c192⟩ : ∃ v, I143 a0 12 = v := ⟨_, rfl⟩
      rw [c192] at p165
      obtain ⟨v193, c194⟩ : ∃ v, I143 a0 8 = v := ⟨_, rfl⟩
      have b195 := iv15_8 hS151.1 ta0 c194
      rw [c194] at p166
      replace hF := hF.neg (by exact om_e4d065d5 p155)
      replace hP := hP.neg (by exact om_e4d065d5 p155)
      replace hF := hF.neg (by exact om_e6f60cd2 p157 p158)
      replace hP := hP.neg (by exact om_e6f60cd2 p157 p158)
      refine tr_lstore_n dX12_readTurner_16 (by decide) (by decide) (by decide) ?_
      refine tr_aload_n dX12_readTurner_17 rfl ?_
      refine tr_ldcwS dX12_readTurner_18 ld12_318 ?_
      refine q_callVi hE (M' := mX12_eatsWord) (as := [_]) dX12_readTurner_21 lk12_290 inX12_eatsWord seX12_eatsWord myX12_eatsWord (by decide) ⟨by decide, by decide⟩ rfl (kR15 hS151.1 ta0) (Nat.le_of_ble_eq_true rfl) rfl rfl (by decide) (by decide) (fk_X12_eatsWord hS151.1 (gB) ((tkN gB (tkN gB gs))) ta0 (by decide) (TxA.kp hT hS151 ta0 rfl rfl rfl (by decide +kernel) (by decide +kernel)) (by (try rw [c182]); first | done | with_reducible assumption | omega) (by (try rw [c182]); first | done | with_reducible assumption | omega) (by (try rw [c185]); first | done | with_reducible assumption | omega) (by (try rw [c188]); first | done | with_reducible assumption | omega) (by (try rw [c190]); first | done | assumption) (by (try rw [c192]); first | done | assumption) (by (try rw [c194]); first | done | assumption) (by (try rw [((hS151.cell ta0 (by decide +kernel)).trans c26)]); first | done | with_reducible assumption | omega)) ?_
      rintro v201 cn' K' N' I196 R197 L198 ⟨rfl, rfl, rfl, rfl, g199, gl200, h202, dj203, -⟩
      (try rw [pk_21] at dj203)
      have hM204 : NmM I196 R0 L145 a1 gQ := NmM.kpS hM178 g199 hS151.1 ta1 (by decide +kernel) (by decide +kernel)
      have hS205 := hS151.tr g199 (by decide +kernel) (by decide +kernel)
      have c206 : I196 a1 4 = v45 := (g199.cell ta1 (by decide +kernel)).trans c152
      have c207 : I196 a0 13 = v179 := (g199.cell ta0 (by decide +kernel)).trans c180
      have hO208 : FrO 14 a1 T I0 I196 := hO153.st g199 (by decide +kernel)
      have hL209 := hL177.tr gl200 (by decide +kernel)
      have hM210 : NmM I196 R0 L198 a1 gQ := NmM.kpL hM204 gl200 hS205.1 ta1 (by decide +kernel)
      rcases dj203 with ⟨p211, p212, p213, p214, p215, p216, p217, p218, p219, p220, p221, -⟩ | ⟨p222, p223, p224, p225, p226, p227, p228, p229, p230, p231, -⟩
      · skip
        rw [c207] at p214
        rw [c180] at p214
        obtain ⟨v232, c233⟩ : ∃ v, I196 a0 9 = v := ⟨_, rfl⟩
        have b234 := iv15_9 hS205.1 ta0 c233
        rw [c233] at p215
        rw [c233] at p216
        obtain ⟨v235, c236⟩ : ∃ v, I196 a0 10 = v := ⟨_, rfl⟩
        have b237 := iv15_10 hS205.1 ta0 c236
        rw [c236] at p217
        obtain ⟨v238, c239⟩ : ∃ v, I196 a0 11 = v := ⟨_, rfl⟩
        rw [c239] at p218
        obtain ⟨y240, c241⟩ : ∃ v, L198 a0 15 = v := ⟨_, rfl⟩
        rw [c241] at p219
        obtain ⟨v242, c243⟩ : ∃ v, I196 a0 12 = v := ⟨_, rfl⟩
        rw [c243] at p220
        obtain ⟨v244, c245⟩ : ∃ v, I196 a0 8 = v := ⟨_, rfl⟩
        have b246 := iv15_8 hS205.1 ta0 c245
        rw [c245] at p221
        refine q_if_eq 31 dX12_readTurner_24 (by decide) (fun h247 => ?_) (fun h247 => ?_)
        · skip
          exfalso; exact om_3624102b p211 h247
        · skip
          refine q_iconst dX12_readTurner_27 (by decide) ?_
          intro v248 h249
          refine tr_goto 73 dX12_readTurner_28 (by decide) ?_
          refine tr_istore_n dX12_readTurner_73 (by decide) (by decide) ?_
          have kd250 : tkd gB (tkN gB (tkN gB gs)) = 0 := by simp [tkd, (show tkK gB (tkN gB (tkN gB gs)) = 1 by exact om_ee8a1e2d p212), (show tkW gB (tkN gB (tkN gB gs)) = 627891 by exact om_be5fb79b p213)]
          have kd250x : tkd gB (tkN gB (tkN gB gs)) = v248.toInt := by exact om_92159e6f h249 kd250
          refine tr_iload_n dX12_readTurner_74 rfl ?_
          refine q_iconst dX12_readTurner_75 (by decide) ?_
          intro v251 h252
          refine q_icmp_ne 84 dX12_readTurner_76 (by decide) (fun h253 => ?_) (fun h253 => ?_)
          · skip
            refine sf_tuL hE hZ hS205.1 (gB) (gs) (gQ) ta0 (by omega) (TxA.kp hT hS205 ta0 rfl rfl rfl (by decide +kernel) (by decide +kernel)) (fun b hb => (Option.some.inj (d2.symm.trans hb)) ▸ hM210) (by (try rw [c233]); first | done | with_reducible assumption | omega) (by (try rw [c233]); first | done | with_reducible assumption | omega) (by (try rw [c236]); first | done | with_reducible assumption | omega) (by (try rw [c239]); first | done | with_reducible assumption | omega) (by (try rw [c241]); first | done | assumption) (by (try rw [c243]); first | done | assumption) (by (try rw [c245]); first | done | assumption) (by (try rw [((hS205.cell ta0 (by decide +kernel)).trans c26)]); first | done | with_reducible assumption | omega) (fun q0 z0 => by obtain rfl := Option.some.inj ((d2).symm.trans z0); (try rw [((hS205.cell ta1 (by decide +kernel)).trans c30)]); first | done | with_reducible assumption | omega) (fun q0 z0 => by obtain rfl := Option.some.inj ((d2).symm.trans z0); (try rw [((hS205.cell ta1 (by decide +kernel)).trans c34)]); first | done | with_reducible assumption | omega) (fun q0 z0 => by obtain rfl := Option.some.inj ((d2).symm.trans z0); (try rw [((hS205.cell ta1 (by decide +kernel)).trans c38)]); first | done | with_reducible assumption | omega) (fun q0 z0 => by obtain rfl := Option.some.inj ((d2).symm.trans z0); (try rw [((hS205.cell ta1 (by decide +kernel)).trans c42)]); first | done | with_reducible assumption | omega) (fun q0 z0 => by obtain rfl := Option.some.inj ((d2).symm.trans z0); (try rw [c206]); first | done | with_reducible assumption | omega) (fun q0 z0 => by obtain rfl := Option.some.inj ((d2).symm.trans z0); (try rw [((hS205.cell ta1 (by decide +kernel)).trans c50)]); first | done | with_reducible assumption | omega) (fun q0 z0 => by obtain rfl := Option.some.inj ((d2).symm.trans z0); (try rw [((hS205.cell ta1 (by decide +kernel)).trans c54)]); first | done | with_reducible assumption | omega) (fun q0 z0 => by obtain rfl := Option.some.inj ((d2).symm.trans z0); (try rw [((hS205.cell ta1 (by decide +kernel)).trans c58)]); first | done | with_reducible assumption | omega) (by first | done | assumption) (by first | done | with_reducible assumption | omega) (by first | done | with_reducible assumption | omega) (by first | done | with_reducible assumption | omega) (by first | done | with_reducible assumption | omega) (by first | done | with_reducible assumption | omega) (by first | done | with_reducible assumption | omega) (by first | done | with_reducible assumption | omega) (by first | done | with_reducible assumption | omega) (by first | done | with_reducible assumption | omega) ⟨_, d2⟩ rfl rfl rfl ?_
            rintro I254 R255 L256 ⟨g257, rp258, rp259, dj260, -⟩
            obtain rfl : R0 = R255 := funext fun a => funext fun j => (g257.2.2 a j (wm_no rfl)).symm
            have hS261 := hS205.tr g257 (by decide +kernel) (by decide +kernel)
            have hO262 : FrO 14 a1 T I0 I254 := hO208.tr (rp259 _ d2)
            rcases dj260 with ⟨p263, p264, p265, p266, p267, p268, p269, p270, p271, p272, p273, p274, p275, p276, p277, p278, p279, gl280, rp281, rp282, -⟩ | ⟨p283, p284, p285, p286, -⟩
            · skip
              have hL287 := hL209.tr gl280 (by decide +kernel)
              have p288 := p264 _ d2
              clear p264
              rw [((hS261.cell ta1 (by decide +kernel)).trans c30)] at p288
              have p289 := p265 _ d2
              clear p265
              rw [((hS261.cell ta1 (by decide +kernel)).trans c34)] at p289
              have p290 := p266 _ d2
              clear p266
              rw [((hS261.cell ta1 (by decide +kernel)).trans c38)] at p290
              have p291 := p267 _ d2
              clear p267
              rw [((hS261.cell ta1 (by decide +kernel)).trans c42)] at p291
              obtain ⟨v292, c293⟩ : ∃ v, I254 a1 4 = v := ⟨_, rfl⟩
              have b294 := iv14_4 hS261.1 ta1 c293
              have p295 := p268 _ d2
              clear p268
              rw [c293] at p295
              have p296 := p269 _ d2
              clear p269
              rw [((hS261.cell ta1 (by decide +kernel)).trans c50)] at p296
              have p297 := p270 _ d2
              clear p270
              rw [((hS261.cell ta1 (by decide +kernel)).trans c54)] at p297
              have p298 := p271 _ d2
              clear p271
              rw [((hS261.cell ta1 (by decide +kernel)).trans c58)] at p298
              obtain ⟨v299, c300⟩ : ∃ v, I254 a0 13 = v := ⟨_, rfl⟩
              rw [c300] at p272
              rw [c207] at p272
              obtain ⟨v301, c302⟩ : ∃ v, I254 a0 9 = v := ⟨_, rfl⟩
              have b303 := iv15_9 hS261.1 ta0 c302
              rw [c302] at p273
              rw [c302] at p274
              obtain ⟨v304, c305⟩ : ∃ v, I254 a0 10 = v := ⟨_, rfl⟩
              have b306 := iv15_10 hS261.1 ta0 c305
              rw [c305] at p275
              obtain ⟨v307, c308⟩ : ∃ v, I254 a0 11 = v := ⟨_, rfl⟩
              rw [c308] at p276
              obtain ⟨y309, c310⟩ : ∃ v, L256 a0 15 = v := ⟨_, rfl⟩
              rw [c310] at p277
              obtain ⟨v311, c312⟩ : ∃ v, I254 a0 12 = v := ⟨_, rfl⟩
              rw [c312] at p278
              obtain ⟨v313, c314⟩ : ∃ v, I254 a0 8 = v := ⟨_, rfl⟩
              have b315 := iv15_8 hS261.1 ta0 c314
              rw [c314] at p279
              obtain ⟨v316, c317⟩ : ∃ v, I254 a0 14 = v := ⟨_, rfl⟩
              exact ⟨rfl, rfl, rfl, rfl, rfl, hS261, (fun b hb => (Option.some.inj (d2.symm.trans hb)) ▸ (((((FrM.rf (R := R0) (b := a1) (T := T)).st g83 (by decide +kernel)).st g146 (by decide +kernel)).st g199 (by decide +kernel)).tr (rp258 _ d2))), (fun dr hd => (Option.some.inj (d2.symm.trans hd)) ▸ hO262), (Or.inl ⟨(by first | done | with_reducible assumption | omega), (fun q0 z0 => by obtain rfl := Option.some.inj ((d2).symm.trans z0); (try rw [((hS261.cell ta1 (by decide +kernel)).trans c30)]); first | done | with_reducible assumption | omega), (fun q0 z0 => by obtain rfl := Option.some.inj ((d2).symm.trans z0); (try rw [((hS261.cell ta1 (by decide +kernel)).trans c34)]); first | done | with_reducible assumption | omega), (fun q0 z0 => by obtain rfl := Option.some.inj ((d2).symm.trans z0); (try rw [((hS261.cell ta1 (by decide +kernel)).trans c38)]); first | done | with_reducible assumption | omega), (fun q0 z0 => by obtain rfl := Option.some.inj ((d2).symm.trans z0); (try rw [((hS261.cell ta1 (by decide +kernel)).trans c42)]); first | done | with_reducible assumption | omega), (fun q0 z0 => by obtain rfl := Option.some.inj ((d2).symm.trans z0); (try rw [c293]); first | done | with_reducible assumption | omega), (fun q0 z0 => by obtain rfl := Option.some.inj ((d2).symm.trans z0); (try rw [((hS261.cell ta1 (by decide +kernel)).trans c50)]); first | done | with_reducible assumption | omega), (fun q0 z0 => by obtain rfl := Option.some.inj ((d2).symm.trans z0); (try rw [((hS261.cell ta1 (by decide +kernel)).trans c54)]); first | done | with_reducible assumption | omega), (fun q0 z0 => by obtain rfl := Option.some.inj ((d2).symm.trans z0); (try rw [((hS261.cell ta1 (by decide +kernel)).trans c58)]); first | done | with_reducible assumption | omega), (by (try rw [c300]); (try rw [c65]); first | done | with_reducible assumption | omega), (by (try rw [c302]); first | done | with_reducible assumption | omega), (by (try rw [c302]); first | done | with_reducible assumption | omega), (by (try rw [c305]); first | done | with_reducible assumption | omega), (by (try rw [c308]); first | done | with_reducible assumption | omega), (by (try rw [c310]); first | done | assumption), (by (try rw [c312]); first | done | assumption), (by (try rw [c314]); first | done | assumption), hL287, rp281, (fun E b hb hE => by obtain rfl := Option.some.inj (d2.symm.trans hb); exact rp282 _ _ d2 (AlM.kp hE hW0 ta1 ((g199.cell ta1 (wm_no (by decide +kernel))).trans ((g146.cell ta1 (wm_no (by decide +kernel))).trans (g83.cell ta1 (wm_no (by decide +kernel))))) ((((RoF.rf (ex := rdm) (T := T)).tr (RoF.st g83 (by decide +kernel))).tr (RoF.st g146 (by decide +kernel))).tr (RoF.st g199 (by decide +kernel))))), trivial⟩), trivial⟩
            · skip
              obtain ⟨v318, c319⟩ : ∃ v, I254 a0 9 = v := ⟨_, rfl⟩
              have b320 := iv15_9 hS261.1 ta0 c319
              rw [c319] at p284
              obtain ⟨v321, c322⟩ : ∃ v, I254 a0 13 = v := ⟨_, rfl⟩
              rw [c322] at p285
              obtain ⟨v323, c324⟩ : ∃ v, I254 a0 14 = v := ⟨_, rfl⟩
              rw [c324] at p286
              obtain ⟨v325, c326⟩ : ∃ v, I254 a1 4 = v := ⟨_, rfl⟩
              have b327 := iv14_4 hS261.1 ta1 c326
              obtain ⟨v328, c329⟩ : ∃ v, I254 a0 10 = v := ⟨_, rfl⟩
              have b330 := iv15_10 hS261.1 ta0 c329
              obtain ⟨v331, c332⟩ : ∃ v, I254 a0 11 = v := ⟨_, rfl⟩
              obtain ⟨y333, c334⟩ : ∃ v, L256 a0 15 = v := ⟨_, rfl⟩
              obtain ⟨v335, c336⟩ : ∃ v, I254 a0 12 = v := ⟨_, rfl⟩
              obtain ⟨v337, c338⟩ : ∃ v, I254 a0 8 = v := ⟨_, rfl⟩
              have b339 := iv15_8 hS261.1 ta0 c338
              exact ⟨rfl, rfl, rfl, rfl, rfl, hS261, (fun b hb => (Option.some.inj (d2.symm.trans hb)) ▸ (((((FrM.rf (R := R0) (b := a1) (T := T)).st g83 (by decide +kernel)).st g146 (by decide +kernel)).st g199 (by decide +kernel)).tr (rp258 _ d2))), (fun dr hd => (Option.some.inj (d2.symm.trans hd)) ▸ hO262), (Or.inr (⟨(by first | done | with_reducible assumption | omega), (by (try rw [c319]); first | done | with_reducible assumption | omega), (by (try rw [c322]); first | done | with_reducible assumption | omega), (by (try rw [c324]); first | done | with_reducible assumption | omega), trivial⟩)), trivial⟩
          · skip
            exfalso; exact om_8a096741 h249 h252 h253
      · skip
        rw [c207] at p224
        rw [c180] at p224
        obtain ⟨v340, c341⟩ : ∃ v, I196 a0 9 = v := ⟨_, rfl⟩
        have b342 := iv15_9 hS205.1 ta0 c341
        rw [c341] at p225
        rw [c341] at p226
        obtain ⟨v343, c344⟩ : ∃ v, I196 a0 10 = v := ⟨_, rfl⟩
        have b345 := iv15_10 hS205.1 ta0 c344
        rw [c344] at p227
        obtain ⟨v346, c347⟩ : ∃ v, I196 a0 11 = v := ⟨_, rfl⟩
        rw [c347] at p228
        obtain ⟨y348, c349⟩ : ∃ v, L198 a0 15 = v := ⟨_, rfl⟩
        rw [c349] at p229
        obtain ⟨v350, c351⟩ : ∃ v, I196 a0 12 = v := ⟨_, rfl⟩
        rw [c351] at p230
        obtain ⟨v352, c353⟩ : ∃ v, I196 a0 8 = v := ⟨_, rfl⟩
        have b354 := iv15_8 hS205.1 ta0 c353
        rw [c353] at p231
        refine q_if_eq 31 dX12_readTurner_24 (by decide) (fun h355 => ?_) (fun h355 => ?_)
        · skip
          refine tr_aload_n dX12_readTurner_31 rfl ?_
          refine tr_ldcwS dX12_readTurner_32 ld12_320 ?_
          refine q_callVi hE (M' := mX12_eatsWord) (as := [_]) dX12_readTurner_35 lk12_290 inX12_eatsWord seX12_eatsWord myX12_eatsWord (by decide) ⟨by decide, by decide⟩ rfl (kR15 hS205.1 ta0) (Nat.le_of_ble_eq_true rfl) rfl rfl (by decide) (by decide) (fk_X12_eatsWord hS205.1 (gB) ((tkN gB (tkN gB gs))) ta0 (by decide) (TxA.kp hT hS205 ta0 rfl rfl rfl (by decide +kernel) (by decide +kernel)) (by (try rw [c341]); first | done | with_reducible assumption | omega) (by (try rw [c341]); first | done | with_reducible assumption | omega) (by (try rw [c344]); first | done | with_reducible assumption | omega) (by (try rw [c347]); first | done | with_reducible assumption | omega) (by (try rw [c349]); first | done | assumption) (by (try rw [c351]); first | done | assumption) (by (try rw [c353]); first | done | assumption) (by (try rw [((hS205.cell ta0 (by decide +kernel)).trans c26)]); first | done | with_reducible assumption | omega)) ?_
          rintro v361 cn' K' N' I356 R357 L358 ⟨rfl, rfl, rfl, rfl, g359, gl360, h362, dj363, -⟩
          (try rw [pk_3] at dj363)
          have hM364 : NmM I356 R0 L198 a1 gQ := NmM.kpS hM210 g359 hS205.1 ta1 (by decide +kernel) (by decide +kernel)
          have hS365 := hS205.tr g359 (by decide +kernel) (by decide +kernel)
          have c366 : I356 a1 4 = v45 := (g359.cell ta1 (by decide +kernel)).trans c206
          have c367 : I356 a0 13 = v179 := (g359.cell ta0 (by decide +kernel)).trans c207
          have hO368 : FrO 14 a1 T I0 I356 := hO208.st g359 (by decide +kernel)
          have hL369 := hL209.tr gl360 (by decide +kernel)
          have hM370 : NmM I356 R0 L358 a1 gQ := NmM.kpL hM364 gl360 hS365.1 ta1 (by decide +kernel)
          rcases dj363 with ⟨p371, p372, p373, p374, p375, p376, p377, p378, p379, p380, p381, -⟩ | ⟨p382, p383, p384, p385, p386, p387, p388, p389, p390, p391, -⟩
          · skip
            rw [c367] at p374
            rw [c207] at p374
            obtain ⟨v392, c393⟩ : ∃ v, I356 a0 9 = v := ⟨_, rfl⟩
            have b394 := iv15_9 hS365.1 ta0 c393
            rw [c393] at p375
            rw [c393] at p376
            obtain ⟨v395, c396⟩ : ∃ v, I356 a0 10 = v := ⟨_, rfl⟩
            have b397 := iv15_10 hS365.1 ta0 c396
            rw [c396] at p377
            obtain ⟨v398, c399⟩ : ∃ v, I356 a0 11 = v := ⟨_, rfl⟩
            rw [c399] at p378
            obtain ⟨y400, c401⟩ : ∃ v, L358 a0 15 = v := ⟨_, rfl⟩
            rw [c401] at p379
            obtain ⟨v402, c403⟩ : ∃ v, I356 a0 12 = v := ⟨_, rfl⟩
            rw [c403] at p380
            obtain ⟨v404, c405⟩ : ∃ v, I356 a0 8 = v := ⟨_, rfl⟩
            have b406 := iv15_8 hS365.1 ta0 c405
            rw [c405] at p381
            refine q_if_eq 45 dX12_readTurner_38 (by decide) (fun h407 => ?_) (fun h407 => ?_)
            · skip
              exfalso; exact om_3624102b p371 h407
            · skip
              refine q_iconst dX12_readTurner_41 (by decide) ?_
              intro v408 h409
              refine tr_goto 73 dX12_readTurner_42 (by decide) ?_
              refine tr_istore_n dX12_readTurner_73 (by decide) (by decide) ?_
              have kd410 : tkd gB (tkN gB (tkN gB gs)) = 1 := by simp [tkd, (show tkK gB (tkN gB (tkN gB gs)) = 1 by exact om_ee8a1e2d p372), (show tkW gB (tkN gB (tkN gB gs)) = 2500036 by exact om_e589aa96 p373)]
              have kd410x : tkd gB (tkN gB (tkN gB gs)) = v408.toInt := by exact om_f2e5fab5 h409 kd410
              refine tr_iload_n dX12_readTurner_74 rfl ?_
              refine q_iconst dX12_readTurner_75 (by decide) ?_
              intro v411 h412
              refine q_icmp_ne 84 dX12_readTurner_76 (by decide) (fun h413 => ?_) (fun h413 => ?_)
              · skip
                refine sf_tuL hE hZ hS365.1 (gB) (gs) (gQ) ta0 (by omega) (TxA.kp hT hS365 ta0 rfl rfl rfl (by decide +kernel) (by decide +kernel)) (fun b hb => (Option.some.inj (d2.symm.trans hb)) ▸ hM370) (by (try rw [c393]); first | done | with_reducible assumption | omega) (by (try rw [c393]); first | done | with_reducible assumption | omega) (by (try rw [c396]); first | done | with_reducible assumption | omega) (by (try rw [c399]); first | done | with_reducible assumption | omega) (by (try rw [c401]); first | done | assumption) (by (try rw [c403]); first | done | assumption) (by (try rw [c405]); first | done | assumption) (by (try rw [((hS365.cell ta0 (by decide +kernel)).trans c26)]); first | done | with_reducible assumption | omega) (fun q0 z0 => by obtain rfl := Option.some.inj ((d2).symm.trans z0); (try rw [((hS365.cell ta1 (by decide +kernel)).trans c30)]); first | done | with_reducible assumption | omega) (fun q0 z0 => by obtain rfl := Option.some.inj ((d2).symm.trans z0); (try rw [((hS365.cell ta1 (by decide +kernel)).trans c34)]); first | done | with_reducible assumption | omega) (fun q0 z0 => by obtain rfl := Option.some.inj ((d2).symm.trans z0); (try rw [((hS365.cell ta1 (by decide +kernel)).trans c38)]); first | done | with_reducible assumption | omega) (fun q0 z0 => by obtain rfl := Option.some.inj ((d2).symm.trans z0); (try rw [((hS365.cell ta1 (by decide +kernel)).trans c42)]); first | done | with_reducible assumption | omega) (fun q0 z0 => by obtain rfl := Option.some.inj ((d2).symm.trans z0); (try rw [c366]); first | done | with_reducible assumption | omega) (fun q0 z0 => by obtain rfl := Option.some.inj ((d2).symm.trans z0); (try rw [((hS365.cell ta1 (by decide +kernel)).trans c50)]); first | done | with_reducible assumption | omega) (fun q0 z0 => by obtain rfl := Option.some.inj ((d2).symm.trans z0); (try rw [((hS365.cell ta1 (by decide +kernel)).trans c54)]); first | done | with_reducible assumption | omega) (fun q0 z0 => by obtain rfl := Option.some.inj ((d2).symm.trans z0); (try rw [((hS365.cell ta1 (by decide +kernel)).trans c58)]); first | done | with_reducible assumption | omega) (by first | done | assumption) (by first | done | with_reducible assumption | omega) (by first | done | with_reducible assumption | omega) (by first | done | with_reducible assumption | omega) (by first | done | with_reducible assumption | omega) (by first | done | with_reducible assumption | omega) (by first | done | with_reducible assumption | omega) (by first | done | with_reducible assumption | omega) (by first | done | with_reducible assumption | omega) (by first | done | with_reducible assumption | omega) ⟨_, d2⟩ rfl rfl rfl ?_
                rintro I414 R415 L416 ⟨g417, rp418, rp419, dj420, -⟩
                obtain rfl : R0 = R415 := funext fun a => funext fun j => (g417.2.2 a j (wm_no rfl)).symm
                have hS421 := hS365.tr g417 (by decide +kernel) (by decide +kernel)
                have hO422 : FrO 14 a1 T I0 I414 := hO368.tr (rp419 _ d2)
                rcases dj420 with ⟨p423, p424, p425, p426, p427, p428, p429, p430, p431, p432, p433, p434, p435, p436, p437, p438, p439, gl440, rp441, rp442, -⟩ | ⟨p443, p444, p445, p446, -⟩
                · skip
                  have hL447 := hL369.tr gl440 (by decide +kernel)
                  have p448 := p424 _ d2
                  clear p424
                  rw [((hS421.cell ta1 (by decide +kernel)).trans c30)] at p448
                  have p449 := p425 _ d2
                  clear p425
                  rw [((hS421.cell ta1 (by decide +kernel)).trans c34)] at p449
                  have p450 := p426 _ d2
                  clear p426
                  rw [((hS421.cell ta1 (by decide +kernel)).trans c38)] at p450
                  have p451 := p427 _ d2
                  clear p427
                  rw [((hS421.cell ta1 (by decide +kernel)).trans c42)] at p451
                  obtain ⟨v452, c453⟩ : ∃ v, I414 a1 4 = v := ⟨_, rfl⟩
                  have b454 := iv14_4 hS421.1 ta1 c453
                  have p455 := p428 _ d2
                  clear p428
                  rw [c453] at p455
                  have p456 := p429 _ d2
                  clear p429
                  rw [((hS421.cell ta1 (by decide +kernel)).trans c50)] at p456
                  have p457 := p430 _ d2
                  clear p430
                  rw [((hS421.cell ta1 (by decide +kernel)).trans c54)] at p457
                  have p458 := p431 _ d2
                  clear p431
                  rw [((hS421.cell ta1 (by decide +kernel)).trans c58)] at p458
                  obtain ⟨v459, c460⟩ : ∃ v, I414 a0 13 = v := ⟨_, rfl⟩
                  rw [c460] at p432
                  rw [c367] at p432
                  obtain ⟨v461, c462⟩ : ∃ v, I414 a0 9 = v := ⟨_, rfl⟩
                  have b463 := iv15_9 hS421.1 ta0 c462
                  rw [c462] at p433
                  rw [c462] at p434
                  obtain ⟨v464, c465⟩ : ∃ v, I414 a0 10 = v := ⟨_, rfl⟩
                  have b466 := iv15_10 hS421.1 ta0 c465
                  rw [c465] at p435
                  obtain ⟨v467, c468⟩ : ∃ v, I414 a0 11 = v := ⟨_, rfl⟩
                  rw [c468] at p436
                  obtain ⟨y469, c470⟩ : ∃ v, L416 a0 15 = v := ⟨_, rfl⟩
                  rw [c470] at p437
                  obtain ⟨v471, c472⟩ : ∃ v, I414 a0 12 = v := ⟨_, rfl⟩
                  rw [c472] at p438
                  obtain ⟨v473, c474⟩ : ∃ v, I414 a0 8 = v := ⟨_, rfl⟩
                  have b475 := iv15_8 hS421.1 ta0 c474
                  rw [c474] at p439
                  obtain ⟨v476, c477⟩ : ∃ v, I414 a0 14 = v := ⟨_, rfl⟩
                  exact ⟨rfl, rfl, rfl, rfl, rfl, hS421, (fun b hb => (Option.some.inj (d2.symm.trans hb)) ▸ ((((((FrM.rf (R := R0) (b := a1) (T := T)).st g83 (by decide +kernel)).st g146 (by decide +kernel)).st g199 (by decide +kernel)).st g359 (by decide +kernel)).tr (rp418 _ d2))), (fun dr hd => (Option.some.inj (d2.symm.trans hd)) ▸ hO422), (Or.inl ⟨(by first | done | with_reducible assumption | omega), (fun q0 z0 => by obtain rfl := Option.some.inj ((d2).symm.trans z0); (try rw [((hS421.cell ta1 (by decide +kernel)).trans c30)]); first | done | with_reducible assumption | omega), (fun q0 z0 => by obtain rfl := Option.some.inj ((d2).symm.trans z0); (try rw [((hS421.cell ta1 (by decide +kernel)).trans c34)]); first | done | with_reducible assumption | omega), (fun q0 z0 => by obtain rfl := Option.some.inj ((d2).symm.trans z0); (try rw [((hS421.cell ta1 (by decide +kernel)).trans c38)]); first | done | with_reducible assumption | omega), (fun q0 z0 => by obtain rfl := Option.some.inj ((d2).symm.trans z0); (try rw [((hS421.cell ta1 (by decide +kernel)).trans c42)]); first | done | with_reducible assumption | omega), (fun q0 z0 => by obtain rfl := Option.some.inj ((d2).symm.trans z0); (try rw [c453]); first | done | with_reducible assumption | omega), (fun q0 z0 => by obtain rfl := Option.some.inj ((d2).symm.trans z0); (try rw [((hS421.cell ta1 (by decide +kernel)).trans c50)]); first | done | with_reducible assumption | omega), (fun q0 z0 => by obtain rfl := Option.some.inj ((d2).symm.trans z0); (try rw [((hS421.cell ta1 (by decide +kernel)).trans c54)]); first | done | with_reducible assumption | omega), (fun q0 z0 => by obtain rfl := Option.some.inj ((d2).symm.trans z0); (try rw [((hS421.cell ta1 (by decide +kernel)).trans c58)]); first | done | with_reducible assumption | omega), (by (try rw [c460]); (try rw [c65]); first | done | with_reducible assumption | omega), (by (try rw [c462]); first | done | with_reducible assumption | omega), (by (try rw [c462]); first | done | with_reducible assumption | omega), (by (try rw [c465]); first | done | with_reducible assumption | omega), (by (try rw [c468]); first | done | with_reducible assumption | omega), (by (try rw [c470]); first | done | assumption), (by (try rw [c472]); first | done | assumption), (by (try rw [c474]); first | done | assumption), hL447, rp441, (fun E b hb hE => by obtain rfl := Option.some.inj (d2.symm.trans hb); exact rp442 _ _ d2 (AlM.kp hE hW0 ta1 ((g359.cell ta1 (wm_no (by decide +kernel))).trans ((g199.cell ta1 (wm_no (by decide +kernel))).trans ((g146.cell ta1 (wm_no (by decide +kernel))).trans (g83.cell ta1 (wm_no (by decide +kernel)))))) (((((RoF.rf (ex := rdm) (T := T)).tr (RoF.st g83 (by decide +kernel))).tr (RoF.st g146 (by decide +kernel))).tr (RoF.st g199 (by decide +kernel))).tr (RoF.st g359 (by decide +kernel))))), trivial⟩), trivial⟩
                · skip
                  obtain ⟨v478, c479⟩ : ∃ v, I414 a0 9 = v := ⟨_, rfl⟩
                  have b480 := iv15_9 hS421.1 ta0 c479
                  rw [c479] at p444
                  obtain ⟨v481, c482⟩ : ∃ v, I414 a0 13 = v := ⟨_, rfl⟩
                  rw [c482] at p445
                  obtain ⟨v483, c484⟩ : ∃ v, I414 a0 14 = v := ⟨_, rfl⟩
                  rw [c484] at p446
                  obtain ⟨v485, c486⟩ : ∃ v, I414 a1 4 = v := ⟨_, rfl⟩
                  have b487 := iv14_4 hS421.1 ta1 c486
                  obtain ⟨v488, c489⟩ : ∃ v, I414 a0 10 = v := ⟨_, rfl⟩
                  have b490 := iv15_10 hS421.1 ta0 c489
                  obtain ⟨v491, c492⟩ : ∃ v, I414 a0 11 = v := ⟨_, rfl⟩
                  obtain ⟨y493, c494⟩ : ∃ v, L416 a0 15 = v := ⟨_, rfl⟩
                  obtain ⟨v495, c496⟩ : ∃ v, I414 a0 12 = v := ⟨_, rfl⟩
                  obtain ⟨v497, c498⟩ : ∃ v, I414 a0 8 = v := ⟨_, rfl⟩
                  have b499 := iv15_8 hS421.1 ta0 c498
                  exact ⟨rfl, rfl, rfl, rfl, rfl, hS421, (fun b hb => (Option.some.inj (d2.symm.trans hb)) ▸ ((((((FrM.rf (R := R0) (b := a1) (T := T)).st g83 (by decide +kernel)).st g146 (by decide +kernel)).st g199 (by decide +kernel)).st g359 (by decide +kernel)).tr (rp418 _ d2))), (fun dr hd => (Option.some.inj (d2.symm.trans hd)) ▸ hO422), (Or.inr (⟨(by first | done | with_reducible assumption | omega), (by (try rw [c479]); first | done | with_reducible assumption | omega), (by (try rw [c482]); first | done | with_reducible assumption | omega), (by (try rw [c484]); first | done | with_reducible assumption | omega), trivial⟩)), trivial⟩
              · skip
                exfalso; exact om_21e85782 h409 h412 h413
          · skip
            rw [c367] at p384
            rw [c207] at p384
            obtain ⟨v500, c501⟩ : ∃ v, I356 a0 9 = v := ⟨_, rfl⟩
            have b502 := iv15_9 hS365.1 ta0 c501
            rw [c501] at p385
            rw [c501] at p386
            obtain ⟨v503, c504⟩ : ∃ v, I356 a0 10 = v := ⟨_, rfl⟩
            have b505 := iv15_10 hS365.1 ta0 c504
            rw [c504] at p387
            obtain ⟨v506, c507⟩ : ∃ v, I356 a0 11 = v := ⟨_, rfl⟩
            rw [c507] at p388
            obtain ⟨y508, c509⟩ : ∃ v, L358 a0 15 = v := ⟨_, rfl⟩
            rw [c509] at p389
            obtain ⟨v510, c511⟩ : ∃ v, I356 a0 12 = v := ⟨_, rfl⟩
            rw [c511] at p390
            obtain ⟨v512, c513⟩ : ∃ v, I356 a0 8 = v := ⟨_, rfl⟩
            have b514 := iv15_8 hS365.1 ta0 c513
            rw [c513] at p391
            refine q_if_eq 45 dX12_readTurner_38 (by decide) (fun h515 => ?_) (fun h515 => ?_)
            · skip
              refine tr_aload_n dX12_readTurner_45 rfl ?_
              refine tr_ldcwS dX12_readTurner_46 ld12_322 ?_
              refine q_callVi hE (M' := mX12_eatsWord) (as := [_]) dX12_readTurner_49 lk12_290 inX12_eatsWord seX12_eatsWord myX12_eatsWord (by decide) ⟨by decide, by decide⟩ rfl (kR15 hS365.1 ta0) (Nat.le_of_ble_eq_true rfl) rfl rfl (by decide) (by decide) (fk_X12_eatsWord hS365.1 (gB) ((tkN gB (tkN gB gs))) ta0 (by decide) (TxA.kp hT hS365 ta0 rfl rfl rfl (by decide +kernel) (by decide +kernel)) (by (try rw [c501]); first | done | with_reducible assumption | omega) (by (try rw [c501]); first | done | with_reducible assumption | omega) (by (try rw [c504]); first | done | with_reducible assumption | omega) (by (try rw [c507]); first | done | with_reducible assumption | omega) (by (try rw [c509]); first | done | assumption) (by (try rw [c511]); first | done | assumption) (by (try rw [c513]); first | done | assumption) (by (try rw [((hS365.cell ta0 (by decide +kernel)).trans c26)]); first | done | with_reducible assumption | omega)) ?_
              rintro v521 cn' K' N' I516 R517 L518 ⟨rfl, rfl, rfl, rfl, g519, gl520, h522, dj523, -⟩
              (try rw [pk_9] at dj523)
              have hM524 : NmM I516 R0 L358 a1 gQ := NmM.kpS hM370 g519 hS365.1 ta1 (by decide +kernel) (by decide +kernel)
              have hS525 := hS365.tr g519 (by decide +kernel) (by decide +kernel)
              have c526 : I516 a1 4 = v45 := (g519.cell ta1 (by decide +kernel)).trans c366
              have c527 : I516 a0 13 = v179 := (g519.cell ta0 (by decide +kernel)).trans c367
              have hO528 : FrO 14 a1 T I0 I516 := hO368.st g519 (by decide +kernel)
              have hL529 := hL369.tr gl520 (by decide +kernel)
              have hM530 : NmM I516 R0 L518 a1 gQ := NmM.kpL hM524 gl520 hS525.1 ta1 (by decide +kernel)
              rcases dj523 with ⟨p531, p532, p533, p534, p535, p536, p537, p538, p539, p540, p541, -⟩ | ⟨p542, p543, p544, p545, p546, p547, p548, p549, p550, p551, -⟩
              · skip
                rw [c527] at p534
                rw [c367] at p534
                obtain ⟨v552, c553⟩ : ∃ v, I516 a0 9 = v := ⟨_, rfl⟩
                have b554 := iv15_9 hS525.1 ta0 c553
                rw [c553] at p535
                rw [c553] at p536
                obtain ⟨v555, c556⟩ : ∃ v, I516 a0 10 = v := ⟨_, rfl⟩
                have b557 := iv15_10 hS525.1 ta0 c556
                rw [c556] at p537
                obtain ⟨v558, c559⟩ : ∃ v, I516 a0 11 = v := ⟨_, rfl⟩
                rw [c559] at p538
                obtain ⟨y560, c561⟩ : ∃ v, L518 a0 15 = v := ⟨_, rfl⟩
                rw [c561] at p539
                obtain ⟨v562, c563⟩ : ∃ v, I516 a0 12 = v := ⟨_, rfl⟩
                rw [c563] at p540
                obtain ⟨v564, c565⟩ : ∃ v, I516 a0 8 = v := ⟨_, rfl⟩
                have b566 := iv15_8 hS525.1 ta0 c565
                rw [c565] at p541
                refine q_if_eq 59 dX12_readTurner_52 (by decide) (fun h567 => ?_) (fun h567 => ?_)
                · skip
                  exfalso; exact om_3624102b p531 h567
                · skip
                  refine q_iconst dX12_readTurner_55 (by decide) ?_
                  intro v568 h569
                  refine tr_goto 73 dX12_readTurner_56 (by decide) ?_
                  refine tr_istore_n dX12_readTurner_73 (by decide) (by decide) ?_
                  have kd570 : tkd gB (tkN gB (tkN gB gs)) = 2 := by simp [tkd, (show tkK gB (tkN gB (tkN gB gs)) = 1 by exact om_ee8a1e2d p532), (show tkW gB (tkN gB (tkN gB gs)) = 136230 by exact om_3e12fa0a p533)]
                  have kd570x : tkd gB (tkN gB (tkN gB gs)) = v568.toInt := by exact om_4957c422 h569 kd570
                  refine tr_iload_n dX12_readTurner_74 rfl ?_
                  refine q_iconst dX12_readTurner_75 (by decide) ?_
                  intro v571 h572
                  refine q_icmp_ne 84 dX12_readTurner_76 (by decide) (fun h573 => ?_) (fun h573 => ?_)
                  · skip
                    refine sf_tuL hE hZ hS525.1 (gB) (gs) (gQ) ta0 (by omega) (TxA.kp hT hS525 ta0 rfl rfl rfl (by decide +kernel) (by decide +kernel)) (fun b hb => (Option.some.inj (d2.symm.trans hb)) ▸ hM530) (by (try rw [c553]); first | done | with_reducible assumption | omega) (by (try rw [c553]); first | done | with_reducible assumption | omega) (by (try rw [c556]); first | done | with_reducible assumption | omega) (by (try rw [c559]); first | done | with_reducible assumption | omega) (by (try rw [c561]); first | done | assumption) (by (try rw [c563]); first | done | assumption) (by (try rw [c565]); first | done | assumption) (by (try rw [((hS525.cell ta0 (by decide +kernel)).trans c26)]); first | done | with_reducible assumption | omega) (fun q0 z0 => by obtain rfl := Option.some.inj ((d2).symm.trans z0); (try rw [((hS525.cell ta1 (by decide +kernel)).trans c30)]); first | done | with_reducible assumption | omega) (fun q0 z0 => by obtain rfl := Option.some.inj ((d2).symm.trans z0); (try rw [((hS525.cell ta1 (by decide +kernel)).trans c34)]); first | done | with_reducible assumption | omega) (fun q0 z0 => by obtain rfl := Option.some.inj ((d2).symm.trans z0); (try rw [((hS525.cell ta1 (by decide +kernel)).trans c38)]); first | done | with_reducible assumption | omega) (fun q0 z0 => by obtain rfl := Option.some.inj ((d2).symm.trans z0); (try rw [((hS525.cell ta1 (by decide +kernel)).trans c42)]); first | done | with_reducible assumption | omega) (fun q0 z0 => by obtain rfl := Option.some.inj ((d2).symm.trans z0); (try rw [c526]); first | done | with_reducible assumption | omega) (fun q0 z0 => by obtain rfl := Option.some.inj ((d2).symm.trans z0); (try rw [((hS525.cell ta1 (by decide +kernel)).trans c50)]); first | done | with_reducible assumption | omega) (fun q0 z0 => by obtain rfl := Option.some.inj ((d2).symm.trans z0); (try rw [((hS525.cell ta1 (by decide +kernel)).trans c54)]); first | done | with_reducible assumption | omega) (fun q0 z0 => by obtain rfl := Option.some.inj ((d2).symm.trans z0); (try rw [((hS525.cell ta1 (by decide +kernel)).trans c58)]); first | done | with_reducible assumption | omega) (by first | done | assumption) (by first | done | with_reducible assumption | omega) (by first | done | with_reducible assumption | omega) (by first | done | with_reducible assumption | omega) (by first | done | with_reducible assumption | omega) (by first | done | with_reducible assumption | omega) (by first | done | with_reducible assumption | omega) (by first | done | with_reducible assumption | omega) (by first | done | with_reducible assumption | omega) (by first | done | with_reducible assumption | omega) ⟨_, d2⟩ rfl rfl rfl ?_
                    rintro I574 R575 L576 ⟨g577, rp578, rp579, dj580, -⟩
                    obtain rfl : R0 = R575 := funext fun a => funext fun j => (g577.2.2 a j (wm_no rfl)).symm
                    have hS581 := hS525.tr g577 (by decide +kernel) (by decide +kernel)
                    have hO582 : FrO 14 a1 T I0 I574 := hO528.tr (rp579 _ d2)
                    rcases dj580 with ⟨p583, p584, p585, p586, p587, p588, p589, p590, p591, p592, p593, p594, p595, p596, p597, p598, p599, gl600, rp601, rp602, -⟩ | ⟨p603, p604, p605, p606, -⟩
                    · skip
                      have hL607 := hL529.tr gl600 (by decide +kernel)
                      have p608 := p584 _ d2
                      clear p584
                      rw [((hS581.cell ta1 (by decide +kernel)).trans c30)] at p608
                      have p609 := p585 _ d2
                      clear p585
                      rw [((hS581.cell ta1 (by decide +kernel)).trans c34)] at p609
                      have p610 := p586 _ d2
                      clear p586
                      rw [((hS581.cell ta1 (by decide +kernel)).trans c38)] at p610
                      have p611 := p587 _ d2
                      clear p587
                      rw [((hS581.cell ta1 (by decide +kernel)).trans c42)] at p611
                      obtain ⟨v612, c613⟩ : ∃ v, I574 a1 4 = v := ⟨_, rfl⟩
                      have b614 := iv14_4 hS581.1 ta1 c613
                      have p615 := p588 _ d2
                      clear p588
                      rw [c613] at p615
                      have p616 := p589 _ d2
                      clear p589
                      rw [((hS581.cell ta1 (by decide +kernel)).trans c50)] at p616
                      have p617 := p590 _ d2
                      clear p590
                      rw [((hS581.cell ta1 (by decide +kernel)).trans c54)] at p617
                      have p618 := p591 _ d2
                      clear p591
                      rw [((hS581.cell ta1 (by decide +kernel)).trans c58)] at p618
                      obtain ⟨v619, c620⟩ : ∃ v, I574 a0 13 = v := ⟨_, rfl⟩
                      rw [c620] at p592
                      rw [c527] at p592
                      obtain ⟨v621, c622⟩ : ∃ v, I574 a0 9 = v := ⟨_, rfl⟩
                      have b623 := iv15_9 hS581.1 ta0 c622
                      rw [c622] at p593
                      rw [c622] at p594
                      obtain ⟨v624, c625⟩ : ∃ v, I574 a0 10 = v := ⟨_, rfl⟩
                      have b626 := iv15_10 hS581.1 ta0 c625
                      rw [c625] at p595
                      obtain ⟨v627, c628⟩ : ∃ v, I574 a0 11 = v := ⟨_, rfl⟩
                      rw [c628] at p596
                      obtain ⟨y629, c630⟩ : ∃ v, L576 a0 15 = v := ⟨_, rfl⟩
                      rw [c630] at p597
                      obtain ⟨v631, c632⟩ : ∃ v, I574 a0 12 = v := ⟨_, rfl⟩
                      rw [c632] at p598
                      obtain ⟨v633, c634⟩ : ∃ v, I574 a0 8 = v := ⟨_, rfl⟩
                      have b635 := iv15_8 hS581.1 ta0 c634
                      rw [c634] at p599
                      obtain ⟨v636, c637⟩ : ∃ v, I574 a0 14 = v := ⟨_, rfl⟩
                      exact ⟨rfl, rfl, rfl, rfl, rfl, hS581, (fun b hb => (Option.some.inj (d2.symm.trans hb)) ▸ (((((((FrM.rf (R := R0) (b := a1) (T := T)).st g83 (by decide +kernel)).st g146 (by decide +kernel)).st g199 (by decide +kernel)).st g359 (by decide +kernel)).st g519 (by decide +kernel)).tr (rp578 _ d2))), (fun dr hd => (Option.some.inj (d2.symm.trans hd)) ▸ hO582), (Or.inl ⟨(by first | done | with_reducible assumption | omega), (fun q0 z0 => by obtain rfl := Option.some.inj ((d2).symm.trans z0); (try rw [((hS581.cell ta1 (by decide +kernel)).trans c30)]); first | done | with_reducible assumption | omega), (fun q0 z0 => by obtain rfl := Option.some.inj ((d2).symm.trans z0); (try rw [((hS581.cell ta1 (by decide +kernel)).trans c34)]); first | done | with_reducible assumption | omega), (fun q0 z0 => by obtain rfl := Option.some.inj ((d2).symm.trans z0); (try rw [((hS581.cell ta1 (by decide +kernel)).trans c38)]); first | done | with_reducible assumption | omega), (fun q0 z0 => by obtain rfl := Option.some.inj ((d2).symm.trans z0); (try rw [((hS581.cell ta1 (by decide +kernel)).trans c42)]); first | done | with_reducible assumption | omega), (fun q0 z0 => by obtain rfl := Option.some.inj ((d2).symm.trans z0); (try rw [c613]); first | done | with_reducible assumption | omega), (fun q0 z0 => by obtain rfl := Option.some.inj ((d2).symm.trans z0); (try rw [((hS581.cell ta1 (by decide +kernel)).trans c50)]); first | done | with_reducible assumption | omega), (fun q0 z0 => by obtain rfl := Option.some.inj ((d2).symm.trans z0); (try rw [((hS581.cell ta1 (by decide +kernel)).trans c54)]); first | done | with_reducible assumption | omega), (fun q0 z0 => by obtain rfl := Option.some.inj ((d2).symm.trans z0); (try rw [((hS581.cell ta1 (by decide +kernel)).trans c58)]); first | done | with_reducible assumption | omega), (by (try rw [c620]); (try rw [c65]); first | done | with_reducible assumption | omega), (by (try rw [c622]); first | done | with_reducible assumption | omega), (by (try rw [c622]); first | done | with_reducible assumption | omega), (by (try rw [c625]); first | done | with_reducible assumption | omega), (by (try rw [c628]); first | done | with_reducible assumption | omega), (by (try rw [c630]); first | done | assumption), (by (try rw [c632]); first | done | assumption), (by (try rw [c634]); first | done | assumption), hL607, rp601, (fun E b hb hE => by obtain rfl := Option.some.inj (d2.symm.trans hb); exact rp602 _ _ d2 (AlM.kp hE hW0 ta1 ((g519.cell ta1 (wm_no (by decide +kernel))).trans ((g359.cell ta1 (wm_no (by decide +kernel))).trans ((g199.cell ta1 (wm_no (by decide +kernel))).trans ((g146.cell ta1 (wm_no (by decide +kernel))).trans (g83.cell ta1 (wm_no (by decide +kernel))))))) ((((((RoF.rf (ex := rdm) (T := T)).tr (RoF.st g83 (by decide +kernel))).tr (RoF.st g146 (by decide +kernel))).tr (RoF.st g199 (by decide +kernel))).tr (RoF.st g359 (by decide +kernel))).tr (RoF.st g519 (by decide +kernel))))), trivial⟩), trivial⟩
                    · skip
                      obtain ⟨v638, c639⟩ : ∃ v, I574 a0 9 = v := ⟨_, rfl⟩
                      have b640 := iv15_9 hS581.1 ta0 c639
                      rw [c639] at p604
                      obtain ⟨v641, c642⟩ : ∃ v, I574 a0 13 = v := ⟨_, rfl⟩
                      rw [c642] at p605
                      obtain ⟨v643, c644⟩ : ∃ v, I574 a0 14 = v := ⟨_, rfl⟩
                      rw [c644] at p606
                      obtain ⟨v645, c646⟩ : ∃ v, I574 a1 4 = v := ⟨_, rfl⟩
                      have b647 := iv14_4 hS581.1 ta1 c646
                      obtain ⟨v648, c649⟩ : ∃ v, I574 a0 10 = v := ⟨_, rfl⟩
                      have b650 := iv15_10 hS581.1 ta0 c649
                      obtain ⟨v651, c652⟩ : ∃ v, I574 a0 11 = v := ⟨_, rfl⟩
                      obtain ⟨y653, c654⟩ : ∃ v, L576 a0 15 = v := ⟨_, rfl⟩
                      obtain ⟨v655, c656⟩ : ∃ v, I574 a0 12 = v := ⟨_, rfl⟩
                      obtain ⟨v657, c658⟩ : ∃ v, I574 a0 8 = v := ⟨_, rfl⟩
                      have b659 := iv15_8 hS581.1 ta0 c658
                      exact ⟨rfl, rfl, rfl, rfl, rfl, hS581, (fun b hb => (Option.some.inj (d2.symm.trans hb)) ▸ (((((((FrM.rf (R := R0) (b := a1) (T := T)).st g83 (by decide +kernel)).st g146 (by decide +kernel)).st g199 (by decide +kernel)).st g359 (by decide +kernel)).st g519 (by decide +kernel)).tr (rp578 _ d2))), (fun dr hd => (Option.some.inj (d2.symm.trans hd)) ▸ hO582), (Or.inr (⟨(by first | done | with_reducible assumption | omega), (by (try rw [c639]); first | done | with_reducible assumption | omega), (by (try rw [c642]); first | done | with_reducible assumption | omega), (by (try rw [c644]); first | done | with_reducible assumption | omega), trivial⟩)), trivial⟩
                  · skip
                    exfalso; exact om_2f4a55fd h569 h572 h573
              · skip
                rw [c527] at p544
                rw [c367] at p544
                obtain ⟨v660, c661⟩ : ∃ v, I516 a0 9 = v := ⟨_, rfl⟩
                have b662 := iv15_9 hS525.1 ta0 c661
                rw [c661] at p545
                rw [c661] at p546
                obtain ⟨v663, c664⟩ : ∃ v, I516 a0 10 = v := ⟨_, rfl⟩
                have b665 := iv15_10 hS525.1 ta0 c664
                rw [c664] at p547
                obtain ⟨v666, c667⟩ : ∃ v, I516 a0 11 = v := ⟨_, rfl⟩
                rw [c667] at p548
                obtain ⟨y668, c669⟩ : ∃ v, L518 a0 15 = v := ⟨_, rfl⟩
                rw [c669] at p549
                obtain ⟨v670, c671⟩ : ∃ v, I516 a0 12 = v := ⟨_, rfl⟩
                rw [c671] at p550
                obtain ⟨v672, c673⟩ : ∃ v, I516 a0 8 = v := ⟨_, rfl⟩
                have b674 := iv15_8 hS525.1 ta0 c673
                rw [c673] at p551
                refine q_if_eq 59 dX12_readTurner_52 (by decide) (fun h675 => ?_) (fun h675 => ?_)
                · skip
                  refine tr_aload_n dX12_readTurner_59 rfl ?_
                  refine tr_ldcS dX12_readTurner_60 ld12_178 ?_
                  refine q_callVi hE (M' := mX12_eatsWord) (as := [_]) dX12_readTurner_62 lk12_290 inX12_eatsWord seX12_eatsWord myX12_eatsWord (by decide) ⟨by decide, by decide⟩ rfl (kR15 hS525.1 ta0) (Nat.le_of_ble_eq_true rfl) rfl rfl (by decide) (by decide) (fk_X12_eatsWord hS525.1 (gB) ((tkN gB (tkN gB gs))) ta0 (by decide) (TxA.kp hT hS525 ta0 rfl rfl rfl (by decide +kernel) (by decide +kernel)) (by (try rw [c661]); first | done | with_reducible assumption | omega) (by (try rw [c661]); first | done | with_reducible assumption | omega) (by (try rw [c664]); first | done | with_reducible assumption | omega) (by (try rw [c667]); first | done | with_reducible assumption | omega) (by (try rw [c669]); first | done | assumption) (by (try rw [c671]); first | done | assumption) (by (try rw [c673]); first | done | assumption) (by (try rw [((hS525.cell ta0 (by decide +kernel)).trans c26)]); first | done | with_reducible assumption | omega)) ?_
                  rintro v681 cn' K' N' I676 R677 L678 ⟨rfl, rfl, rfl, rfl, g679, gl680, h682, dj683, -⟩
                  (try rw [pk_0] at dj683)
                  have hM684 : NmM I676 R0 L518 a1 gQ := NmM.kpS hM530 g679 hS525.1 ta1 (by decide +kernel) (by decide +kernel)
                  have hS685 := hS525.tr g679 (by decide +kernel) (by decide +kernel)
                  have c686 : I676 a1 4 = v45 := (g679.cell ta1 (by decide +kernel)).trans c526
                  have c687 : I676 a0 13 = v179 := (g679.cell ta0 (by decide +kernel)).trans c527
                  have hO688 : FrO 14 a1 T I0 I676 := hO528.st g679 (by decide +kernel)
                  have hL689 := hL529.tr gl680 (by decide +kernel)
                  have hM690 : NmM I676 R0 L678 a1 gQ := NmM.kpL hM684 gl680 hS685.1 ta1 (by decide +kernel)
                  rcases dj683 with ⟨p691, p692, p693, p694, p695, p696, p697, p698, p699, p700, p701, -⟩ | ⟨p702, p703, p704, p705, p706, p707, p708, p709, p710, p711, -⟩
                  · skip
                    rw [c687] at p694
                    rw [c527] at p694
                    obtain ⟨v712, c713⟩ : ∃ v, I676 a0 9 = v := ⟨_, rfl⟩
                    have b714 := iv15_9 hS685.1 ta0 c713
                    rw [c713] at p695
                    rw [c713] at p696
                    obtain ⟨v715, c716⟩ : ∃ v, I676 a0 10 = v := ⟨_, rfl⟩
                    have b717 := iv15_10 hS685.1 ta0 c716
                    rw [c716] at p697
                    obtain ⟨v718, c719⟩ : ∃ v, I676 a0 11 = v := ⟨_, rfl⟩
                    rw [c719] at p698
                    obtain ⟨y720, c721⟩ : ∃ v, L678 a0 15 = v := ⟨_, rfl⟩
                    rw [c721] at p699
                    obtain ⟨v722, c723⟩ : ∃ v, I676 a0 12 = v := ⟨_, rfl⟩
                    rw [c723] at p700
                    obtain ⟨v724, c725⟩ : ∃ v, I676 a0 8 = v := ⟨_, rfl⟩
                    have b726 := iv15_8 hS685.1 ta0 c725
                    rw [c725] at p701
                    refine q_if_eq 72 dX12_readTurner_65 (by decide) (fun h727 => ?_) (fun h727 => ?_)
                    · skip
                      exfalso; exact om_3624102b p691 h727
                    · skip
                      refine q_iconst dX12_readTurner_68 (by decide) ?_
                      intro v728 h729
                      refine tr_goto 73 dX12_readTurner_69 (by decide) ?_
                      refine tr_istore_n dX12_readTurner_73 (by decide) (by decide) ?_
                      have kd730 : tkd gB (tkN gB (tkN gB gs)) = 3 := by simp [tkd, (show tkK gB (tkN gB (tkN gB gs)) = 1 by exact om_ee8a1e2d p692), (show tkW gB (tkN gB (tkN gB gs)) = 1490073635 by exact om_7c4563db p693)]
                      have kd730x : tkd gB (tkN gB (tkN gB gs)) = v728.toInt := by exact om_f89033d0 h729 kd730
                      refine tr_iload_n dX12_readTurner_74 rfl ?_
                      refine q_iconst dX12_readTurner_75 (by decide) ?_
                      intro v731 h732
                      refine q_icmp_ne 84 dX12_readTurner_76 (by decide) (fun h733 => ?_) (fun h733 => ?_)
                      · skip
                        refine sf_tuL hE hZ hS685.1 (gB) (gs) (gQ) ta0 (by omega) (TxA.kp hT hS685 ta0 rfl rfl rfl (by decide +kernel) (by decide +kernel)) (fun b hb => (Option.some.inj (d2.symm.trans hb)) ▸ hM690) (by (try rw [c713]); first | done | with_reducible assumption | omega) (by (try rw [c713]); first | done | with_reducible assumption | omega) (by (try rw [c716]); first | done | with_reducible assumption | omega) (by (try rw [c719]); first | done | with_reducible assumption | omega) (by (try rw [c721]); first | done | assumption) (by (try rw [c723]); first | done | assumption) (by (try rw [c725]); first | done | assumption) (by (try rw [((hS685.cell ta0 (by decide +kernel)).trans c26)]); first | done | with_reducible assumption | omega) (fun q0 z0 => by obtain rfl := Option.some.inj ((d2).symm.trans z0); (try rw [((hS685.cell ta1 (by decide +kernel)).trans c30)]); first | done | with_reducible assumption | omega) (fun q0 z0 => by obtain rfl := Option.some.inj ((d2).symm.trans z0); (try rw [((hS685.cell ta1 (by decide +kernel)).trans c34)]); first | done | with_reducible assumption | omega) (fun q0 z0 => by obtain rfl := Option.some.inj ((d2).symm.trans z0); (try rw [((hS685.cell ta1 (by decide +kernel)).trans c38)]); first | done | with_reducible assumption | omega) (fun q0 z0 => by obtain rfl := Option.some.inj ((d2).symm.trans z0); (try rw [((hS685.cell ta1 (by decide +kernel)).trans c42)]); first | done | with_reducible assumption | omega) (fun q0 z0 => by obtain rfl := Option.some.inj ((d2).symm.trans z0); (try rw [c686]); first | done | with_reducible assumption | omega) (fun q0 z0 => by obtain rfl := Option.some.inj ((d2).symm.trans z0); (try rw [((hS685.cell ta1 (by decide +kernel)).trans c50)]); first | done | with_reducible assumption | omega) (fun q0 z0 => by obtain rfl := Option.some.inj ((d2).symm.trans z0); (try rw [((hS685.cell ta1 (by decide +kernel)).trans c54)]); first | done | with_reducible assumption | omega) (fun q0 z0 => by obtain rfl := Option.some.inj ((d2).symm.trans z0); (try rw [((hS685.cell ta1 (by decide +kernel)).trans c58)]); first | done | with_reducible assumption | omega) (by first | done | assumption) (by first | done | with_reducible assumption | omega) (by first | done | with_reducible assumption | omega) (by first | done | with_reducible assumption | omega) (by first | done | with_reducible assumption | omega) (by first | done | with_reducible assumption | omega) (by first | done | with_reducible assumption | omega) (by first | done | with_reducible assumption | omega) (by first | done | with_reducible assumption | omega) (by first | done | with_reducible assumption | omega) ⟨_, d2⟩ rfl rfl rfl ?_
                        rintro I734 R735 L736 ⟨g737, rp738, rp739, dj740, -⟩
                        obtain rfl : R0 = R735 := funext fun a => funext fun j => (g737.2.2 a j (wm_no rfl)).symm
                        have hS741 := hS685.tr g737 (by decide +kernel) (by decide +kernel)
                        have hO742 : FrO 14 a1 T I0 I734 := hO688.tr (rp739 _ d2)
                        rcases dj740 with ⟨p743, p744, p745, p746, p747, p748, p749, p750, p751, p752, p753, p754, p755, p756, p757, p758, p759, gl760, rp761, rp762, -⟩ | ⟨p763, p764, p765, p766, -⟩
                        · skip
                          have hL767 := hL689.tr gl760 (by decide +kernel)
                          have p768 := p744 _ d2
                          clear p744
                          rw [((hS741.cell ta1 (by decide +kernel)).trans c30)] at p768
                          have p769 := p745 _ d2
                          clear p745
                          rw [((hS741.cell ta1 (by decide +kernel)).trans c34)] at p769
                          have p770 := p746 _ d2
                          clear p746
                          rw [((hS741.cell ta1 (by decide +kernel)).trans c38)] at p770
                          have p771 := p747 _ d2
                          clear p747
                          rw [((hS741.cell ta1 (by decide +kernel)).trans c42)] at p771
                          obtain ⟨v772, c773⟩ : ∃ v, I734 a1 4 = v := ⟨_, rfl⟩
                          have b774 := iv14_4 hS741.1 ta1 c773
                          have p775 := p748 _ d2
                          clear p748
                          rw [c773] at p775
                          have p776 := p749 _ d2
                          clear p749
                          rw [((hS741.cell ta1 (by decide +kernel)).trans c50)] at p776
                          have p777 := p750 _ d2
                          clear p750
                          rw [((hS741.cell ta1 (by decide +kernel)).trans c54)] at p777
                          have p778 := p751 _ d2
                          clear p751
                          rw [((hS741.cell ta1 (by decide +kernel)).trans c58)] at p778
                          obtain ⟨v779, c780⟩ : ∃ v, I734 a0 13 = v := ⟨_, rfl⟩
                          rw [c780] at p752
                          rw [c687] at p752
                          obtain ⟨v781, c782⟩ : ∃ v, I734 a0 9 = v := ⟨_, rfl⟩
                          have b783 := iv15_9 hS741.1 ta0 c782
                          rw [c782] at p753
                          rw [c782] at p754
                          obtain ⟨v784, c785⟩ : ∃ v, I734 a0 10 = v := ⟨_, rfl⟩
                          have b786 := iv15_10 hS741.1 ta0 c785
                          rw [c785] at p755
                          obtain ⟨v787, c788⟩ : ∃ v, I734 a0 11 = v := ⟨_, rfl⟩
                          rw [c788] at p756
                          obtain ⟨y789, c790⟩ : ∃ v, L736 a0 15 = v := ⟨_, rfl⟩
                          rw [c790] at p757
                          obtain ⟨v791, c792⟩ : ∃ v, I734 a0 12 = v := ⟨_, rfl⟩
                          rw [c792] at p758
                          obtain ⟨v793, c794⟩ : ∃ v, I734 a0 8 = v := ⟨_, rfl⟩
                          have b795 := iv15_8 hS741.1 ta0 c794
                          rw [c794] at p759
                          obtain ⟨v796, c797⟩ : ∃ v, I734 a0 14 = v := ⟨_, rfl⟩
                          exact ⟨rfl, rfl, rfl, rfl, rfl, hS741, (fun b hb => (Option.some.inj (d2.symm.trans hb)) ▸ ((((((((FrM.rf (R := R0) (b := a1) (T := T)).st g83 (by decide +kernel)).st g146 (by decide +kernel)).st g199 (by decide +kernel)).st g359 (by decide +kernel)).st g519 (by decide +kernel)).st g679 (by decide +kernel)).tr (rp738 _ d2))), (fun dr hd => (Option.some.inj (d2.symm.trans hd)) ▸ hO742), (Or.inl ⟨(by first | done | with_reducible assumption | omega), (fun q0 z0 => by obtain rfl := Option.some.inj ((d2).symm.trans z0); (try rw [((hS741.cell ta1 (by decide +kernel)).trans c30)]); first | done | with_reducible assumption | omega), (fun q0 z0 => by obtain rfl := Option.some.inj ((d2).symm.trans z0); (try rw [((hS741.cell ta1 (by decide +kernel)).trans c34)]); first | done | with_reducible assumption | omega), (fun q0 z0 => by obtain rfl := Option.some.inj ((d2).symm.trans z0); (try rw [((hS741.cell ta1 (by decide +kernel)).trans c38)]); first | done | with_reducible assumption | omega), (fun q0 z0 => by obtain rfl := Option.some.inj ((d2).symm.trans z0); (try rw [((hS741.cell ta1 (by decide +kernel)).trans c42)]); first | done | with_reducible assumption | omega), (fun q0 z0 => by obtain rfl := Option.some.inj ((d2).symm.trans z0); (try rw [c773]); first | done | with_reducible assumption | omega), (fun q0 z0 => by obtain rfl := Option.some.inj ((d2).symm.trans z0); (try rw [((hS741.cell ta1 (by decide +kernel)).trans c50)]); first | done | with_reducible assumption | omega), (fun q0 z0 => by obtain rfl := Option.some.inj ((d2).symm.trans z0); (try rw [((hS741.cell ta1 (by decide +kernel)).trans c54)]); first | done | with_reducible assumption | omega), (fun q0 z0 => by obtain rfl := Option.some.inj ((d2).symm.trans z0); (try rw [((hS741.cell ta1 (by decide +kernel)).trans c58)]); first | done | with_reducible assumption | omega), (by (try rw [c780]); (try rw [c65]); first | done | with_reducible assumption | omega), (by (try rw [c782]); first | done | with_reducible assumption | omega), (by (try rw [c782]); first | done | with_reducible assumption | omega), (by (try rw [c785]); first | done | with_reducible assumption | omega), (by (try rw [c788]); first | done | with_reducible assumption | omega), (by (try rw [c790]); first | done | assumption), (by (try rw [c792]); first | done | assumption), (by (try rw [c794]); first | done | assumption), hL767, rp761, (fun E b hb hE => by obtain rfl := Option.some.inj (d2.symm.trans hb); exact rp762 _ _ d2 (AlM.kp hE hW0 ta1 ((g679.cell ta1 (wm_no (by decide +kernel))).trans ((g519.cell ta1 (wm_no (by decide +kernel))).trans ((g359.cell ta1 (wm_no (by decide +kernel))).trans ((g199.cell ta1 (wm_no (by decide +kernel))).trans ((g146.cell ta1 (wm_no (by decide +kernel))).trans (g83.cell ta1 (wm_no (by decide +kernel)))))))) (((((((RoF.rf (ex := rdm) (T := T)).tr (RoF.st g83 (by decide +kernel))).tr (RoF.st g146 (by decide +kernel))).tr (RoF.st g199 (by decide +kernel))).tr (RoF.st g359 (by decide +kernel))).tr (RoF.st g519 (by decide +kernel))).tr (RoF.st g679 (by decide +kernel))))), trivial⟩), trivial⟩
                        · skip
                          obtain ⟨v798, c799⟩ : ∃ v, I734 a0 9 = v := ⟨_, rfl⟩
                          have b800 := iv15_9 hS741.1 ta0 c799
                          rw [c799] at p764
                          obtain ⟨v801, c802⟩ : ∃ v, I734 a0 13 = v := ⟨_, rfl⟩
                          rw [c802] at p765
                          obtain ⟨v803, c804⟩ : ∃ v, I734 a0 14 = v := ⟨_, rfl⟩
                          rw [c804] at p766
                          obtain ⟨v805, c806⟩ : ∃ v, I734 a1 4 = v := ⟨_, rfl⟩
                          have b807 := iv14_4 hS741.1 ta1 c806
                          obtain ⟨v808, c809⟩ : ∃ v, I734 a0 10 = v := ⟨_, rfl⟩
                          have b810 := iv15_10 hS741.1 ta0 c809
                          obtain ⟨v811, c812⟩ : ∃ v, I734 a0 11 = v := ⟨_, rfl⟩
                          obtain ⟨y813, c814⟩ : ∃ v, L736 a0 15 = v := ⟨_, rfl⟩
                          obtain ⟨v815, c816⟩ : ∃ v, I734 a0 12 = v := ⟨_, rfl⟩
                          obtain ⟨v817, c818⟩ : ∃ v, I734 a0 8 = v := ⟨_, rfl⟩
                          have b819 := iv15_8 hS741.1 ta0 c818
                          exact ⟨rfl, rfl, rfl, rfl, rfl, hS741, (fun b hb => (Option.some.inj (d2.symm.trans hb)) ▸ ((((((((FrM.rf (R := R0) (b := a1) (T := T)).st g83 (by decide +kernel)).st g146 (by decide +kernel)).st g199 (by decide +kernel)).st g359 (by decide +kernel)).st g519 (by decide +kernel)).st g679 (by decide +kernel)).tr (rp738 _ d2))), (fun dr hd => (Option.some.inj (d2.symm.trans hd)) ▸ hO742), (Or.inr (⟨(by first | done | with_reducible assumption | omega), (by (try rw [c799]); first | done | with_reducible assumption | omega), (by (try rw [c802]); first | done | with_reducible assumption | omega), (by (try rw [c804]); first | done | with_reducible assumption | omega), trivial⟩)), trivial⟩
                      · skip
                        exfalso; exact om_7bf836a7 h729 h732 h733
                  · skip
                    rw [c687] at p704
                    rw [c527] at p704
                    obtain ⟨v820, c821⟩ : ∃ v, I676 a0 9 = v := ⟨_, rfl⟩
                    have b822 := iv15_9 hS685.1 ta0 c821
                    rw [c821] at p705
                    rw [c821] at p706
                    obtain ⟨v823, c824⟩ : ∃ v, I676 a0 10 = v := ⟨_, rfl⟩
                    have b825 := iv15_10 hS685.1 ta0 c824
                    rw [c824] at p707
                    obtain ⟨v826, c827⟩ : ∃ v, I676 a0 11 = v := ⟨_, rfl⟩
                    rw [c827] at p708
                    obtain ⟨y828, c829⟩ : ∃ v, L678 a0 15 = v := ⟨_, rfl⟩
                    rw [c829] at p709
                    obtain ⟨v830, c831⟩ : ∃ v, I676 a0 12 = v := ⟨_, rfl⟩
                    rw [c831] at p710
                    obtain ⟨v832, c833⟩ : ∃ v, I676 a0 8 = v := ⟨_, rfl⟩
                    have b834 := iv15_8 hS685.1 ta0 c833
                    rw [c833] at p711
                    refine q_if_eq 72 dX12_readTurner_65 (by decide) (fun h835 => ?_) (fun h835 => ?_)
                    · skip
                      refine q_iconst dX12_readTurner_72 (by decide) ?_
                      intro v836 h837
                      refine tr_istore_n dX12_readTurner_73 (by decide) (by decide) ?_
                      have kd838 : tkd gB (tkN gB (tkN gB gs)) = -1 := tkd_no p223 p383 p543 p703
                      have kd838x : tkd gB (tkN gB (tkN gB gs)) = v836.toInt := by exact om_171d53ce h837 kd838
                      refine tr_iload_n dX12_readTurner_74 rfl ?_
                      refine q_iconst dX12_readTurner_75 (by decide) ?_
                      intro v839 h840
                      refine q_icmp_ne 84 dX12_readTurner_76 (by decide) (fun h841 => ?_) (fun h841 => ?_)
                      · skip
                        exfalso; exact om_51c27872 h837 h840 h841
                      · skip
                        replace hF := hF.pos (by exact om_dd98535d kd838)
                        replace hP := hP.pos (by exact om_dd98535d kd838)
                        refine tr_aload_n dX12_readTurner_79 rfl ?_
                        refine q_iconst dX12_readTurner_80 (by decide) ?_
                        intro v842 h843
                        refine q_callVv hE (M' := mX12_flaw) (as := [_]) dX12_readTurner_81 lk12_145 inX12_flaw seX12_flaw myX12_flaw (by decide) ⟨by decide, by decide⟩ rfl (kR15 hS685.1 ta0) (Nat.le_of_ble_eq_true rfl) rfl rfl (by decide) (by decide) (fk_X12_flaw hS685.1  ta0 (by exact om_95922198 h843) (by (try rw [c821]); first | done | with_reducible assumption | exact om_a938bfda p161 p160 b183.1 p225 p385 p545 p705)) ?_
                        rintro cn' K' N' I844 R845 L846 ⟨rfl, rfl, rfl, rfl, rfl, g847, p850, p851, p852, -⟩
                        have hM853 : NmM I844 R0 L678 a1 gQ := NmM.kpS hM690 g847 hS685.1 ta1 (by decide +kernel) (by decide +kernel)
                        have hS854 := hS685.tr g847 (by decide +kernel) (by decide +kernel)
                        have c855 : I844 a1 4 = v45 := (g847.cell ta1 (by decide +kernel)).trans c686
                        have c856 : I844 a0 10 = v823 := (g847.cell ta0 (by decide +kernel)).trans c824
                        have c857 : I844 a0 11 = v826 := (g847.cell ta0 (by decide +kernel)).trans c827
                        have c858 : I844 a0 12 = v830 := (g847.cell ta0 (by decide +kernel)).trans c831
                        have c859 : I844 a0 8 = v832 := (g847.cell ta0 (by decide +kernel)).trans c833
                        have hO860 : FrO 14 a1 T I0 I844 := hO688.st g847 (by decide +kernel)
                        obtain ⟨v861, c862⟩ : ∃ v, I844 a0 9 = v := ⟨_, rfl⟩
                        have b863 := iv15_9 hS854.1 ta0 c862
                        rw [c862] at p850
                        obtain ⟨v864, c865⟩ : ∃ v, I844 a0 13 = v := ⟨_, rfl⟩
                        rw [c865] at p851
                        obtain ⟨v866, c867⟩ : ∃ v, I844 a0 14 = v := ⟨_, rfl⟩
                        rw [c867] at p852
                        rw [c824] at p852
                        refine sf_tuO hE hZ hS854.1 (gB) ta0 (by (try rw [c862]); first | done | with_reducible assumption | omega) ⟨_, d2⟩ rfl rfl rfl ?_
                        rintro I868 R869 L870 ⟨g871, p872, p873, p874, -⟩
                        obtain rfl : R0 = R869 := funext fun a => funext fun j => (g871.2.2 a j (wm_no rfl)).symm
                        have hS875 := hS854.tr g871 (by decide +kernel) (by decide +kernel)
                        have c876 : I868 a1 4 = v45 := (g871.cell ta1 (by decide +kernel)).trans c855
                        have hO877 : FrO 14 a1 T I0 I868 := hO860.st g871 (by decide +kernel)
                        obtain ⟨v878, c879⟩ : ∃ v, I868 a0 9 = v := ⟨_, rfl⟩
                        have b880 := iv15_9 hS875.1 ta0 c879
                        rw [c879] at p872
                        obtain ⟨v881, c882⟩ : ∃ v, I868 a0 13 = v := ⟨_, rfl⟩
                        rw [c882] at p873
                        rw [c865] at p873
                        obtain ⟨v883, c884⟩ : ∃ v, I868 a0 14 = v := ⟨_, rfl⟩
                        rw [c884] at p874
                        rw [c867] at p874
                        have eF := hF.eq
                        have eP := hP.eq
                        obtain ⟨v885, c886⟩ : ∃ v, I868 a0 10 = v := ⟨_, rfl⟩
                        have b887 := iv15_10 hS875.1 ta0 c886
                        obtain ⟨v888, c889⟩ : ∃ v, I868 a0 11 = v := ⟨_, rfl⟩
                        obtain ⟨y890, c891⟩ : ∃ v, L870 a0 15 = v := ⟨_, rfl⟩
                        obtain ⟨v892, c893⟩ : ∃ v, I868 a0 12 = v := ⟨_, rfl⟩
                        obtain ⟨v894, c895⟩ : ∃ v, I868 a0 8 = v := ⟨_, rfl⟩
                        have b896 := iv15_8 hS875.1 ta0 c895
                        exact ⟨rfl, rfl, rfl, rfl, rfl, hS875, (fun b hb => (Option.some.inj (d2.symm.trans hb)) ▸ (((((((((FrM.rf (R := R0) (b := a1) (T := T)).st g83 (by decide +kernel)).st g146 (by decide +kernel)).st g199 (by decide +kernel)).st g359 (by decide +kernel)).st g519 (by decide +kernel)).st g679 (by decide +kernel)).st g847 (by decide +kernel)).st g871 (by decide +kernel))), (fun dr hd => (Option.some.inj (d2.symm.trans hd)) ▸ hO877), (Or.inr (⟨(by first | done | with_reducible assumption | exact om_7fac24c5 eF), (by (try rw [c879]); first | done | with_reducible assumption | omega), (by (try rw [c882]); first | done | with_reducible assumption | exact om_93aef1c0 h843 p851 p873 eF), (by (try rw [c884]); first | done | with_reducible assumption | exact om_b448b67e p227 p387 p547 p707 p852 p874 eP), trivial⟩)), trivial⟩
                    · skip
                      exfalso; exact om_3a97d4a5 p702 h835
                · skip
                  exfalso; exact om_3a97d4a5 p542 h675
            · skip
              exfalso; exact om_3a97d4a5 p382 h515
        · skip
          exfalso; exact om_3a97d4a5 p222 h355
    · skip
      obtain ⟨v897, c898⟩ : ∃ v, I143 a0 9 = v := ⟨_, rfl⟩
      have b899 := iv15_9 hS151.1 ta0 c898
      rw [c898] at p169
      obtain ⟨v900, c901⟩ : ∃ v, I143 a0 13 = v := ⟨_, rfl⟩
      rw [c901] at p170
      obtain ⟨v902, c903⟩ : ∃ v, I143 a0 14 = v := ⟨_, rfl⟩
      rw [c903] at p171
      replace hF := hF.pos (by exact om_ea380f8a p168)
      replace hP := hP.pos (by exact om_ea380f8a p168)
      refine tr_lstore_n dX12_readTurner_16 (by decide) (by decide) (by decide) ?_
      refine sf_oT17 hE hZ hS151.1 (gB) ta0 (by (try rw [c898]); first | done | with_reducible assumption | omega) ⟨_, d2⟩ rfl rfl ?_
      rintro I904 R905 L906 ⟨g907, p908, p909, p910, rp911, -⟩
      obtain rfl : R0 = R905 := funext fun a => funext fun j => (g907.2.2 a j (wm_no rfl)).symm
      have hS912 := hS151.tr g907 (by decide +kernel) (by decide +kernel)
      have c913 : I904 a1 4 = v45 := (g907.cell ta1 (by decide +kernel)).trans c152
      have hO914 : FrO 14 a1 T I0 I904 := hO153.st g907 (by decide +kernel)
      obtain ⟨v915, c916⟩ : ∃ v, I904 a0 9 = v := ⟨_, rfl⟩
      have b917 := iv15_9 hS912.1 ta0 c916
      rw [c916] at p908
      obtain ⟨v918, c919⟩ : ∃ v, I904 a0 13 = v := ⟨_, rfl⟩
      rw [c919] at p909
      rw [c901] at p909
      obtain ⟨v920, c921⟩ : ∃ v, I904 a0 14 = v := ⟨_, rfl⟩
      rw [c921] at p910
      rw [c903] at p910
      have eF := hF.eq
      have eP := hP.eq
      obtain ⟨v922, c923⟩ : ∃ v, I904 a0 10 = v := ⟨_, rfl⟩
      have b924 := iv15_10 hS912.1 ta0 c923
      obtain ⟨v925, c926⟩ : ∃ v, I904 a0 11 = v := ⟨_, rfl⟩
      obtain ⟨y927, c928⟩ : ∃ v, L906 a0 15 = v := ⟨_, rfl⟩
      obtain ⟨v929, c930⟩ : ∃ v, I904 a0 12 = v := ⟨_, rfl⟩
      obtain ⟨v931, c932⟩ : ∃ v, I904 a0 8 = v := ⟨_, rfl⟩
      have b933 := iv15_8 hS912.1 ta0 c932
      exact ⟨rfl, rfl, rfl, rfl, rfl, hS912, (fun b hb => (Option.some.inj (d2.symm.trans hb)) ▸ ((((FrM.rf (R := R0) (b := a1) (T := T)).st g83 (by decide +kernel)).st g146 (by decide +kernel)).st g907 (by decide +kernel))), (fun dr hd => (Option.some.inj (d2.symm.trans hd)) ▸ hO914), (Or.inr (⟨(by first | done | with_reducible assumption | exact om_7fac24c5 eF), (by (try rw [c916]); first | done | with_reducible assumption | omega), (by (try rw [c919]); first | done | with_reducible assumption | exact om_9adad658 p170 p909 eF), (by (try rw [c921]); first | done | with_reducible assumption | exact om_3998a42e p171 p910 eP), trivial⟩)), trivial⟩
    · skip
      obtain ⟨v934, c935⟩ : ∃ v, I143 a0 9 = v := ⟨_, rfl⟩
      have b936 := iv15_9 hS151.1 ta0 c935
      rw [c935] at p174
      obtain ⟨v937, c938⟩ : ∃ v, I143 a0 13 = v := ⟨_, rfl⟩
      rw [c938] at p175
      obtain ⟨v939, c940⟩ : ∃ v, I143 a0 14 = v := ⟨_, rfl⟩
      rw [c940] at p176
      replace hF := hF.neg (by exact om_e4d065d5 p172)
      replace hP := hP.neg (by exact om_e4d065d5 p172)
      replace hF := hF.pos (by exact om_1b2eae89 p173)
      replace hP := hP.pos (by exact om_1b2eae89 p173)
      refine tr_lstore_n dX12_readTurner_16 (by decide) (by decide) (by decide) ?_
      refine sf_oT17 hE hZ hS151.1 (gB) ta0 (by (try rw [c935]); first | done | with_reducible assumption | omega) ⟨_, d2⟩ rfl rfl ?_
      rintro I941 R942 L943 ⟨g944, p945, p946, p947, rp948, -⟩
      obtain rfl : R0 = R942 := funext fun a => funext fun j => (g944.2.2 a j (wm_no rfl)).symm
      have hS949 := hS151.tr g944 (by decide +kernel) (by decide +kernel)
      have c950 : I941 a1 4 = v45 := (g944.cell ta1 (by decide +kernel)).trans c152
      have hO951 : FrO 14 a1 T I0 I941 := hO153.st g944 (by decide +kernel)
      obtain ⟨v952, c953⟩ : ∃ v, I941 a0 9 = v := ⟨_, rfl⟩
      have b954 := iv15_9 hS949.1 ta0 c953
      rw [c953] at p945
      obtain ⟨v955, c956⟩ : ∃ v, I941 a0 13 = v := ⟨_, rfl⟩
      rw [c956] at p946
      rw [c938] at p946
      obtain ⟨v957, c958⟩ : ∃ v, I941 a0 14 = v := ⟨_, rfl⟩
      rw [c958] at p947
      rw [c940] at p947
      have eF := hF.eq
      have eP := hP.eq
      obtain ⟨v959, c960⟩ : ∃ v, I941 a0 10 = v := ⟨_, rfl⟩
      have b961 := iv15_10 hS949.1 ta0 c960
      obtain ⟨v962, c963⟩ : ∃ v, I941 a0 11 = v := ⟨_, rfl⟩
      obtain ⟨y964, c965⟩ : ∃ v, L943 a0 15 = v := ⟨_, rfl⟩
      obtain ⟨v966, c967⟩ : ∃ v, I941 a0 12 = v := ⟨_, rfl⟩
      obtain ⟨v968, c969⟩ : ∃ v, I941 a0 8 = v := ⟨_, rfl⟩
      have b970 := iv15_8 hS949.1 ta0 c969
      exact ⟨rfl, rfl, rfl, rfl, rfl, hS949, (fun b hb => (Option.some.inj (d2.symm.trans hb)) ▸ ((((FrM.rf (R := R0) (b := a1) (T := T)).st g83 (by decide +kernel)).st g146 (by decide +kernel)).st g944 (by decide +kernel))), (fun dr hd => (Option.some.inj (d2.symm.trans hd)) ▸ hO951), (Or.inr (⟨(by first | done | with_reducible assumption | exact om_c731b21c eF), (by (try rw [c953]); first | done | with_reducible assumption | omega), (by (try rw [c956]); first | done | with_reducible assumption | exact om_fc35f838 p175 p946 eF), (by (try rw [c958]); first | done | with_reducible assumption | exact om_3998a42e p176 p947 eP), trivial⟩)), trivial⟩
  · skip
    obtain ⟨v971, c972⟩ : ∃ v, I80 a0 9 = v := ⟨_, rfl⟩
    have b973 := iv15_9 hS88.1 ta0 c972
    rw [c972] at p103
    obtain ⟨v974, c975⟩ : ∃ v, I80 a0 13 = v := ⟨_, rfl⟩
    rw [c975] at p104
    obtain ⟨v976, c977⟩ : ∃ v, I80 a0 14 = v := ⟨_, rfl⟩
    rw [c977] at p105
    have p978 := p61
    unfold Q7M at p978
    replace hF := hF.pos (by exact om_16a01cd5 pre18 p48 h79 p102)
    replace hP := hP.pos (by exact om_16a01cd5 pre18 p48 h79 p102)
    clear p978
    refine sf_oT12 hE hZ hS88.1 (gB) ta0 (by (try rw [c972]); first | done | with_reducible assumption | omega) ⟨_, d2⟩ rfl ?_
    rintro I979 R980 L981 ⟨g982, p983, p984, p985, rp986, -⟩
    obtain rfl : R0 = R980 := funext fun a => funext fun j => (g982.2.2 a j (wm_no rfl)).symm
    have hS987 := hS88.tr g982 (by decide +kernel) (by decide +kernel)
    have c988 : I979 a1 4 = v45 := (g982.cell ta1 (by decide +kernel)).trans c89
    have hO989 : FrO 14 a1 T I0 I979 := hO90.st g982 (by decide +kernel)
    obtain ⟨v990, c991⟩ : ∃ v, I979 a0 9 = v := ⟨_, rfl⟩
    have b992 := iv15_9 hS987.1 ta0 c991
    rw [c991] at p983
    obtain ⟨v993, c994⟩ : ∃ v, I979 a0 13 = v := ⟨_, rfl⟩
    rw [c994] at p984
    rw [c975] at p984
    obtain ⟨v995, c996⟩ : ∃ v, I979 a0 14 = v := ⟨_, rfl⟩
    rw [c996] at p985
    rw [c977] at p985
    have eF := hF.eq
    have eP := hP.eq
    obtain ⟨v997, c998⟩ : ∃ v, I979 a0 10 = v := ⟨_, rfl⟩
    have b999 := iv15_10 hS987.1 ta0 c998
    obtain ⟨v1000, c1001⟩ : ∃ v, I979 a0 11 = v := ⟨_, rfl⟩
    obtain ⟨y1002, c1003⟩ : ∃ v, L981 a0 15 = v := ⟨_, rfl⟩
    obtain ⟨v1004, c1005⟩ : ∃ v, I979 a0 12 = v := ⟨_, rfl⟩
    obtain ⟨v1006, c1007⟩ : ∃ v, I979 a0 8 = v := ⟨_, rfl⟩
    have b1008 := iv15_8 hS987.1 ta0 c1007
    exact ⟨rfl, rfl, rfl, rfl, rfl, hS987, (fun b hb => (Option.some.inj (d2.symm.trans hb)) ▸ (((FrM.rf (R := R0) (b := a1) (T := T)).st g83 (by decide +kernel)).st g982 (by decide +kernel))), (fun dr hd => (Option.some.inj (d2.symm.trans hd)) ▸ hO989), (Or.inr (⟨(by first | done | with_reducible assumption | exact om_64c62efe eF), (by (try rw [c991]); first | done | with_reducible assumption | omega), (by (try rw [c994]); first | done | with_reducible assumption | exact om_7fd518bd p104 p984 eF), (by (try rw [c996]); first | done | with_reducible assumption | exact om_8e6888af p11 p105 p985 eP), trivial⟩)), trivial⟩
  · skip
    obtain ⟨v1009, c1010⟩ : ∃ v, I80 a0 9 = v := ⟨_, rfl⟩
    have b1011 := iv15_9 hS88.1 ta0 c1010
    rw [c1010] at p108
    obtain ⟨v1012, c1013⟩ : ∃ v, I80 a0 13 = v := ⟨_, rfl⟩
    rw [c1013] at p109
    obtain ⟨v1014, c1015⟩ : ∃ v, I80 a0 14 = v := ⟨_, rfl⟩
    rw [c1015] at p110
    have p1016 := p61
    unfold Q7M at p1016
    replace hF := hF.neg (by exact om_78518ce7 pre18 b47.2 b47.1 p48 h79 p106 p107 p1016)
    replace hP := hP.neg (by exact om_78518ce7 pre18 b47.2 b47.1 p48 h79 p106 p107 p1016)
    replace hF := hF.pos (by exact om_7aa93647 pre18 p107 p1016)
    replace hP := hP.pos (by exact om_7aa93647 pre18 p107 p1016)
    clear p1016
    refine sf_oT12 hE hZ hS88.1 (gB) ta0 (by (try rw [c1010]); first | done | with_reducible assumption | omega) ⟨_, d2⟩ rfl ?_
    rintro I1017 R1018 L1019 ⟨g1020, p1021, p1022, p1023, rp1024, -⟩
    obtain rfl : R0 = R1018 := funext fun a => funext fun j => (g1020.2.2 a j (wm_no rfl)).symm
    have hS1025 := hS88.tr g1020 (by decide +kernel) (by decide +kernel)
    have c1026 : I1017 a1 4 = v45 := (g1020.cell ta1 (by decide +kernel)).trans c89
    have hO1027 : FrO 14 a1 T I0 I1017 := hO90.st g1020 (by decide +kernel)
    obtain ⟨v1028, c1029⟩ : ∃ v, I1017 a0 9 = v := ⟨_, rfl⟩
    have b1030 := iv15_9 hS1025.1 ta0 c1029
    rw [c1029] at p1021
    obtain ⟨v1031, c1032⟩ : ∃ v, I1017 a0 13 = v := ⟨_, rfl⟩
    rw [c1032] at p1022
    rw [c1013] at p1022
    obtain ⟨v1033, c1034⟩ : ∃ v, I1017 a0 14 = v := ⟨_, rfl⟩
    rw [c1034] at p1023
    rw [c1015] at p1023
    have eF := hF.eq
    have eP := hP.eq
    obtain ⟨v1035, c1036⟩ : ∃ v, I1017 a0 10 = v := ⟨_, rfl⟩
    have b1037 := iv15_10 hS1025.1 ta0 c1036
    obtain ⟨v1038, c1039⟩ : ∃ v, I1017 a0 11 = v := ⟨_, rfl⟩
    obtain ⟨y1040, c1041⟩ : ∃ v, L1019 a0 15 = v := ⟨_, rfl⟩
    obtain ⟨v1042, c1043⟩ : ∃ v, I1017 a0 12 = v := ⟨_, rfl⟩
    obtain ⟨v1044, c1045⟩ : ∃ v, I1017 a0 8 = v := ⟨_, rfl⟩
    have b1046 := iv15_8 hS1025.1 ta0 c1045
    exact ⟨rfl, rfl, rfl, rfl, rfl, hS1025, (fun b hb => (Option.some.inj (d2.symm.trans hb)) ▸ (((FrM.rf (R := R0) (b := a1) (T := T)).st g83 (by decide +kernel)).st g1020 (by decide +kernel))), (fun dr hd => (Option.some.inj (d2.symm.trans hd)) ▸ hO1027), (Or.inr (⟨(by first | done | with_reducible assumption | exact om_3a8e1f7c eF), (by (try rw [c1029]); first | done | with_reducible assumption | omega), (by (try rw [c1032]); first | done | with_reducible assumption | exact om_1428d4dd p109 p1022 eF), (by (try rw [c1034]); first | done | with_reducible assumption | exact om_8e6888af p11 p110 p1023 eP), trivial⟩)), trivial⟩
