def wif_oE88 : List Nat := []
def wrf_oE88 : List Nat := []
def wlf_oE88 : List Nat := []
set_option maxHeartbeats 4000000 in
theorem sf_oE88 {X : cz_X} (hE : cz_env X) {T : Nat → Nat} {cn : Nat} {K N : Nat → Nat} {I0 : cz_I} {R0 : cz_R} {L0 : cz_L} {Q : cz_Q} (hZ : cz_Z X mX12_readEvent Q) (hW0 : Wf T cn K N I0 R0 0) (gB : cz_B) {a0 : Nat} (ta0 : T a0 = 15) {x1 : Int32} {x2 : Int32} {x3 : Int32} {x4 : Int32} (pre0 : (I0 a0 9).toInt = 5) (nn4 : ∃ b, R0 a0 4 = some b) {ls : Nat → Option Value} (hl0 : ls 0 = some (.ref a0)) (hl1 : ls 1 = some (.int x1)) (hl2 : ls 2 = some (.int x2)) (hl3 : ls 3 = some (.int x3)) (hl4 : ls 4 = some (.int x4)) (hq : ∀ (I' : cz_I) (R' : cz_R) (L' : cz_L), St T cn K N 0 wif_oE88 wrf_oE88 I0 R0 I' R' ∧ ((I' a0 9).toInt = 5) ∧ ((I' a0 13).toInt = (I0 a0 13).toInt) ∧ ((I' a0 14).toInt = (I0 a0 14).toInt) ∧ (∀ b, R0 a0 4 = some b → FrM R0 b T I0 I') ∧ True → Q none cn K N I' R' L') : Tr X mX12_readEvent 88 ls [] cn K N I0 R0 L0 0 0 := by
  have hS0 : St T cn K N 0 wif_oE88 wrf_oE88 I0 R0 I0 R0 := St.rf0 hW0
  have hL0 : LgS T wlf_oE88 L0 L0 := LgS.rf0
  obtain ⟨a1, d2⟩ := nn4
  have ta1 : T a1 = 14 := hW0.rsN ta0 rfl d2
  obtain ⟨v3, c4⟩ : ∃ v, I0 a0 9 = v := ⟨_, rfl⟩
  have b5 := iv15_9 hW0 ta0 c4
  have p6 := pre0
  rw [c4] at p6
  obtain ⟨v7, c8⟩ : ∃ v, I0 a0 13 = v := ⟨_, rfl⟩
  obtain ⟨v9, c10⟩ : ∃ v, I0 a0 14 = v := ⟨_, rfl⟩
  refine tr_aload_n dX12_readEvent_88 hl0 ?_
  refine q_getI dX12_readEvent_89 fl12_99 (kR15 hS0.1 ta0) c4 ?_
  refine q_iconst dX12_readEvent_92 (by decide) ?_
  intro v11 h12
  refine q_icmp_ne 97 dX12_readEvent_93 (by decide) (fun h13 => ?_) (fun h13 => ?_)
  · skip
    exfalso; exact om_1fa3e129 p6 h12 h13
  · skip
    exact tr_vret hZ dX12_readEvent_96 rfl (by decide) (by decide) (hq _ _ _ ⟨hS0, (by (try rw [c4]); first | done | with_reducible assumption | omega), (by (try rw [c8]); first | done | with_reducible assumption | omega), (by (try rw [c10]); first | done | with_reducible assumption | omega), (fun b hb => (Option.some.inj (d2.symm.trans hb)) ▸ (FrM.rf (R := R0) (b := a1) (T := T))), trivial⟩)
def wif_oE58 : List Nat := [968, 969, 970, 971, 972, 973, 974]
def wrf_oE58 : List Nat := []
def wlf_oE58 : List Nat := []
set_option maxHeartbeats 4000000 in
theorem sf_oE58 {X : cz_X} (hE : cz_env X) {T : Nat → Nat} {cn : Nat} {K N : Nat → Nat} {I0 : cz_I} {R0 : cz_R} {L0 : cz_L} {Q : cz_Q} (hZ : cz_Z X mX12_readEvent Q) (hW0 : Wf T cn K N I0 R0 0) (gB : cz_B) {a0 : Nat} (ta0 : T a0 = 15) {x1 : Int32} {x2 : Int32} {x3 : Int32} (pre0 : (I0 a0 9).toInt = 5) (nn4 : ∃ b, R0 a0 4 = some b) {ls : Nat → Option Value} (hl0 : ls 0 = some (.ref a0)) (hl1 : ls 1 = some (.int x1)) (hl2 : ls 2 = some (.int x2)) (hl3 : ls 3 = some (.int x3)) (hq : ∀ (I' : cz_I) (R' : cz_R) (L' : cz_L), St T cn K N 0 wif_oE58 wrf_oE58 I0 R0 I' R' ∧ ((I' a0 9).toInt = 5) ∧ ((I' a0 13).toInt = (I0 a0 13).toInt) ∧ ((I' a0 14).toInt = (I0 a0 14).toInt) ∧ (∀ b, R0 a0 4 = some b → FrM R0 b T I0 I') ∧ True → Q none cn K N I' R' L') : Tr X mX12_readEvent 58 ls [] cn K N I0 R0 L0 0 0 := by
  have hS0 : St T cn K N 0 wif_oE58 wrf_oE58 I0 R0 I0 R0 := St.rf0 hW0
  have hL0 : LgS T wlf_oE58 L0 L0 := LgS.rf0
  obtain ⟨a1, d2⟩ := nn4
  have ta1 : T a1 = 14 := hW0.rsN ta0 rfl d2
  obtain ⟨v3, c4⟩ : ∃ v, I0 a0 9 = v := ⟨_, rfl⟩
  have b5 := iv15_9 hS0.1 ta0 c4
  have p6 := pre0
  rw [c4] at p6
  obtain ⟨v7, c8⟩ : ∃ v, I0 a0 13 = v := ⟨_, rfl⟩
  obtain ⟨v9, c10⟩ : ∃ v, I0 a0 14 = v := ⟨_, rfl⟩
  refine tr_iload_n dX12_readEvent_58 hl1 ?_
  refine q_iconst dX12_readEvent_59 (by decide) ?_
  intro v11 h12
  refine q_icmp_ne 69 dX12_readEvent_60 (by decide) (fun h13 => ?_) (fun h13 => ?_)
  · skip
    refine tr_aload_n dX12_readEvent_69 hl0 ?_
    refine tr_ldcwS dX12_readEvent_70 ld12_272 ?_
    refine tr_iload_n dX12_readEvent_73 hl3 ?_
    refine q_iconst dX12_readEvent_74 (by decide) ?_
    intro v14 h15
    refine q_iadd dX12_readEvent_75 ?_
    intro v16
    refine tr_aload_n dX12_readEvent_76 hl0 ?_
    refine tr_getR dX12_readEvent_77 fl12_188 (kR15 hS0.1 ta0) d2 ?_
    obtain ⟨v17, c18⟩ : ∃ v, I0 a1 0 = v := ⟨_, rfl⟩
    have b19 := iv14_0 hW0 ta1 c18
    refine q_getI dX12_readEvent_80 fl12_192 (kR14 hS0.1 ta1) c18 ?_
    refine q_callVi hE (M' := mX12_readPart) (as := [_, _, _]) dX12_readEvent_83 lk12_249 inX12_readPart seX12_readPart myX12_readPart (by decide) ⟨by decide, by decide⟩ rfl (kR15 hS0.1 ta0) (Nat.le_of_ble_eq_true rfl) rfl rfl (by decide) (by decide) (k_X12_readPart hS0.1 ta0 (by decide)) ?_
    rintro v24 cn' K' N' I20 R21 L22 ⟨rfl, rfl, rfl, rfl, g23, p25, w26, -⟩
    have hS27 := hS0.tr g23 (by decide +kernel) (by decide +kernel)
    have ov28 := w26.over (by rw [c4]; exact om_394b70a2 p6)
    obtain ⟨v29, c30⟩ : ∃ v, I20 a0 9 = v := ⟨_, rfl⟩
    have b31 := iv15_9 hS27.1 ta0 c30
    obtain ⟨v32, c33⟩ : ∃ v, I20 a0 13 = v := ⟨_, rfl⟩
    obtain ⟨v34, c35⟩ : ∃ v, I20 a0 14 = v := ⟨_, rfl⟩
    (try rw [c30] at ov28)
    (try rw [c33] at ov28)
    (try rw [c35] at ov28)
    (try rw [c4] at ov28)
    (try rw [c8] at ov28)
    (try rw [c10] at ov28)
    refine tr_istore dX12_readEvent_86 (by decide) (by decide) ?_
    refine sf_oE88 hE hZ hS27.1 (gB) ta0 (by (try rw [c30]); first | done | with_reducible assumption | exact om_394b70a2 ov28.1) ⟨_, d2⟩ hl0 hl1 hl2 hl3 rfl ?_
    rintro I36 R37 L38 ⟨g39, p40, p41, p42, rp43, -⟩
    obtain rfl : R0 = R37 := funext fun a => funext fun j => (g39.2.2 a j (wm_no rfl)).symm
    have hS44 := hS27.tr g39 (by decide +kernel) (by decide +kernel)
    have c45 : I36 a0 9 = v29 := (g39.cell ta0 (by decide +kernel)).trans c30
    have c46 : I36 a0 13 = v32 := (g39.cell ta0 (by decide +kernel)).trans c33
    have c47 : I36 a0 14 = v34 := (g39.cell ta0 (by decide +kernel)).trans c35
    rw [c45] at p40
    rw [c46] at p41
    rw [c33] at p41
    rw [c47] at p42
    rw [c35] at p42
    exact hq _ _ _ ⟨hS44, (by (try rw [c45]); first | done | with_reducible assumption | omega), (by (try rw [c46]); (try rw [c8]); first | done | with_reducible assumption | exact om_acd7a85a ov28.2.1), (by (try rw [c47]); (try rw [c10]); first | done | with_reducible assumption | exact om_acd7a85a ov28.2.2), (fun b hb => (Option.some.inj (d2.symm.trans hb)) ▸ (((FrM.rf (R := R0) (b := a1) (T := T)).st g23 (by decide +kernel)).st g39 (by decide +kernel))), trivial⟩
  · skip
    refine tr_iload_n dX12_readEvent_63 hl3 ?_
    refine q_iconst dX12_readEvent_64 (by decide) ?_
    intro v48 h49
    refine q_iadd dX12_readEvent_65 ?_
    intro v50
    refine tr_goto 86 dX12_readEvent_66 (by decide) ?_
    refine tr_istore dX12_readEvent_86 (by decide) (by decide) ?_
    refine sf_oE88 hE hZ hS0.1 (gB) ta0 (by (try rw [c4]); first | done | with_reducible assumption | omega) ⟨_, d2⟩ hl0 hl1 hl2 hl3 rfl ?_
    rintro I51 R52 L53 ⟨g54, p55, p56, p57, rp58, -⟩
    obtain rfl : R0 = R52 := funext fun a => funext fun j => (g54.2.2 a j (wm_no rfl)).symm
    have hS59 := hS0.tr g54 (by decide +kernel) (by decide +kernel)
    have c60 : I51 a0 9 = v3 := (g54.cell ta0 (by decide +kernel)).trans c4
    have c61 : I51 a0 13 = v7 := (g54.cell ta0 (by decide +kernel)).trans c8
    have c62 : I51 a0 14 = v9 := (g54.cell ta0 (by decide +kernel)).trans c10
    rw [c60] at p55
    rw [c61] at p56
    rw [c8] at p56
    rw [c62] at p57
    rw [c10] at p57
    exact hq _ _ _ ⟨hS59, (by (try rw [c60]); first | done | with_reducible assumption | omega), (by (try rw [c61]); (try rw [c8]); first | done | with_reducible assumption | omega), (by (try rw [c62]); (try rw [c10]); first | done | with_reducible assumption | omega), (fun b hb => (Option.some.inj (d2.symm.trans hb)) ▸ ((FrM.rf (R := R0) (b := a1) (T := T)).st g54 (by decide +kernel))), trivial⟩
def wif_oE43 : List Nat := [968, 969, 970, 971, 972, 973, 974]
def wrf_oE43 : List Nat := []
def wlf_oE43 : List Nat := []
set_option maxHeartbeats 4000000 in
theorem sf_oE43 {X : cz_X} (hE : cz_env X) {T : Nat → Nat} {cn : Nat} {K N : Nat → Nat} {I0 : cz_I} {R0 : cz_R} {L0 : cz_L} {Q : cz_Q} (hZ : cz_Z X mX12_readEvent Q) (hW0 : Wf T cn K N I0 R0 0) (gB : cz_B) {a0 : Nat} (ta0 : T a0 = 15) {x1 : Int32} {x2 : Int32} (pre0 : (I0 a0 9).toInt = 5) (nn4 : ∃ b, R0 a0 4 = some b) {ls : Nat → Option Value} (hl0 : ls 0 = some (.ref a0)) (hl1 : ls 1 = some (.int x1)) (hl2 : ls 2 = some (.int x2)) (hq : ∀ (I' : cz_I) (R' : cz_R) (L' : cz_L), St T cn K N 0 wif_oE43 wrf_oE43 I0 R0 I' R' ∧ ((I' a0 9).toInt = 5) ∧ ((I' a0 13).toInt = (I0 a0 13).toInt) ∧ ((I' a0 14).toInt = (I0 a0 14).toInt) ∧ (∀ b, R0 a0 4 = some b → FrM R0 b T I0 I') ∧ True → Q none cn K N I' R' L') : Tr X mX12_readEvent 43 ls [] cn K N I0 R0 L0 0 0 := by
  have hS0 : St T cn K N 0 wif_oE43 wrf_oE43 I0 R0 I0 R0 := St.rf0 hW0
  have hL0 : LgS T wlf_oE43 L0 L0 := LgS.rf0
  obtain ⟨a1, d2⟩ := nn4
  have ta1 : T a1 = 14 := hW0.rsN ta0 rfl d2
  obtain ⟨v3, c4⟩ : ∃ v, I0 a0 9 = v := ⟨_, rfl⟩
  have b5 := iv15_9 hS0.1 ta0 c4
  have p6 := pre0
  rw [c4] at p6
  obtain ⟨v7, c8⟩ : ∃ v, I0 a0 13 = v := ⟨_, rfl⟩
  obtain ⟨v9, c10⟩ : ∃ v, I0 a0 14 = v := ⟨_, rfl⟩
  refine tr_aload_n dX12_readEvent_43 hl0 ?_
  refine q_iconst dX12_readEvent_44 (by decide) ?_
  intro v11 h12
  refine tr_aload_n dX12_readEvent_45 hl0 ?_
  refine tr_getR dX12_readEvent_46 fl12_188 (kR15 hS0.1 ta0) d2 ?_
  obtain ⟨v13, c14⟩ : ∃ v, I0 a1 0 = v := ⟨_, rfl⟩
  have b15 := iv14_0 hW0 ta1 c14
  refine q_getI dX12_readEvent_49 fl12_192 (kR14 hS0.1 ta1) c14 ?_
  refine q_iconst dX12_readEvent_52 (by decide) ?_
  intro v16 h17
  refine q_isubE dX12_readEvent_53 (by intro j1 j2 j3 j4; exact om_c6626f59 b15.2 b15.1 h17) ?_
  intro v18 h19
  refine q_callVi hE (M' := mX12_readWhole) (as := [_, _]) dX12_readEvent_54 lk12_161 inX12_readWhole seX12_readWhole myX12_readWhole (by decide) ⟨by decide, by decide⟩ rfl (kR15 hS0.1 ta0) (Nat.le_of_ble_eq_true rfl) rfl rfl (by decide) (by decide) (k_X12_readWhole hS0.1 ta0) ?_
  rintro v24 cn' K' N' I20 R21 L22 ⟨rfl, rfl, rfl, rfl, g23, p25, w26, -⟩
  have hS27 := hS0.tr g23 (by decide +kernel) (by decide +kernel)
  have b28 : 0 ≤ v24.toInt ∧ v24.toInt ≤ 239 := by exact om_62c0eb21 h12 b15.2 b15.1 h17 h19 p25
  clear p25
  have ov29 := w26.over (by rw [c4]; exact om_394b70a2 p6)
  obtain ⟨v30, c31⟩ : ∃ v, I20 a0 9 = v := ⟨_, rfl⟩
  have b32 := iv15_9 hS27.1 ta0 c31
  obtain ⟨v33, c34⟩ : ∃ v, I20 a0 13 = v := ⟨_, rfl⟩
  obtain ⟨v35, c36⟩ : ∃ v, I20 a0 14 = v := ⟨_, rfl⟩
  (try rw [c31] at ov29)
  (try rw [c34] at ov29)
  (try rw [c36] at ov29)
  (try rw [c4] at ov29)
  (try rw [c8] at ov29)
  (try rw [c10] at ov29)
  refine tr_istore_n dX12_readEvent_57 (by decide) (by decide) ?_
  refine sf_oE58 hE hZ hS27.1 (gB) ta0 (by (try rw [c31]); first | done | with_reducible assumption | exact om_394b70a2 ov29.1) ⟨_, d2⟩ hl0 hl1 hl2 rfl ?_
  rintro I37 R38 L39 ⟨g40, p41, p42, p43, rp44, -⟩
  obtain rfl : R0 = R38 := funext fun a => funext fun j => (g40.2.2 a j (wm_no rfl)).symm
  have hS45 := hS27.tr g40 (by decide +kernel) (by decide +kernel)
  obtain ⟨v46, c47⟩ : ∃ v, I37 a0 9 = v := ⟨_, rfl⟩
  have b48 := iv15_9 hS45.1 ta0 c47
  rw [c47] at p41
  obtain ⟨v49, c50⟩ : ∃ v, I37 a0 13 = v := ⟨_, rfl⟩
  rw [c50] at p42
  rw [c34] at p42
  obtain ⟨v51, c52⟩ : ∃ v, I37 a0 14 = v := ⟨_, rfl⟩
  rw [c52] at p43
  rw [c36] at p43
  exact hq _ _ _ ⟨hS45, (by (try rw [c47]); first | done | with_reducible assumption | omega), (by (try rw [c50]); (try rw [c8]); first | done | with_reducible assumption | exact om_9fa72578 ov29.2.1 p42), (by (try rw [c52]); (try rw [c10]); first | done | with_reducible assumption | exact om_9fa72578 ov29.2.2 p43), (fun b hb => (Option.some.inj (d2.symm.trans hb)) ▸ (((FrM.rf (R := R0) (b := a1) (T := T)).st g23 (by decide +kernel)).st g40 (by decide +kernel))), trivial⟩
def wif_oE13 : List Nat := [968, 969, 970, 971, 972, 973, 974]
def wrf_oE13 : List Nat := []
def wlf_oE13 : List Nat := []
set_option maxHeartbeats 4000000 in
theorem sf_oE13 {X : cz_X} (hE : cz_env X) {T : Nat → Nat} {cn : Nat} {K N : Nat → Nat} {I0 : cz_I} {R0 : cz_R} {L0 : cz_L} {Q : cz_Q} (hZ : cz_Z X mX12_readEvent Q) (hW0 : Wf T cn K N I0 R0 0) (gB : cz_B) {a0 : Nat} (ta0 : T a0 = 15) {x1 : Int32} (pre0 : (I0 a0 9).toInt = 5) (nn4 : ∃ b, R0 a0 4 = some b) {ls : Nat → Option Value} (hl0 : ls 0 = some (.ref a0)) (hl1 : ls 1 = some (.int x1)) (hq : ∀ (I' : cz_I) (R' : cz_R) (L' : cz_L), St T cn K N 0 wif_oE13 wrf_oE13 I0 R0 I' R' ∧ ((I' a0 9).toInt = 5) ∧ ((I' a0 13).toInt = (I0 a0 13).toInt) ∧ ((I' a0 14).toInt = (I0 a0 14).toInt) ∧ (∀ b, R0 a0 4 = some b → FrM R0 b T I0 I') ∧ True → Q none cn K N I' R' L') : Tr X mX12_readEvent 13 ls [] cn K N I0 R0 L0 0 0 := by
  have hS0 : St T cn K N 0 wif_oE13 wrf_oE13 I0 R0 I0 R0 := St.rf0 hW0
  have hL0 : LgS T wlf_oE13 L0 L0 := LgS.rf0
  obtain ⟨a1, d2⟩ := nn4
  have ta1 : T a1 = 14 := hW0.rsN ta0 rfl d2
  obtain ⟨v3, c4⟩ : ∃ v, I0 a0 9 = v := ⟨_, rfl⟩
  have b5 := iv15_9 hS0.1 ta0 c4
  have p6 := pre0
  rw [c4] at p6
  obtain ⟨v7, c8⟩ : ∃ v, I0 a0 13 = v := ⟨_, rfl⟩
  obtain ⟨v9, c10⟩ : ∃ v, I0 a0 14 = v := ⟨_, rfl⟩
  refine tr_iload_n dX12_readEvent_13 hl1 ?_
  refine q_iconst dX12_readEvent_14 (by decide) ?_
  intro v11 h12
  refine q_icmp_eq 23 dX12_readEvent_15 (by decide) (fun h13 => ?_) (fun h13 => ?_)
  · skip
    refine tr_aload_n dX12_readEvent_23 hl0 ?_
    refine q_iconst dX12_readEvent_24 (by decide) ?_
    intro v14 h15
    refine tr_aload_n dX12_readEvent_25 hl0 ?_
    refine tr_getR dX12_readEvent_26 fl12_188 (kR15 hS0.1 ta0) d2 ?_
    obtain ⟨v16, c17⟩ : ∃ v, I0 a1 1 = v := ⟨_, rfl⟩
    have b18 := iv14_1 hW0 ta1 c17
    refine q_getI dX12_readEvent_29 fl12_263 (kR14 hS0.1 ta1) c17 ?_
    refine q_iconst dX12_readEvent_32 (by decide) ?_
    intro v19 h20
    refine q_isubE dX12_readEvent_33 (by intro j1 j2 j3 j4; exact om_529b66b2 b18.2 b18.1 h20) ?_
    intro v21 h22
    refine q_callVi hE (M' := mX12_readWhole) (as := [_, _]) dX12_readEvent_34 lk12_161 inX12_readWhole seX12_readWhole myX12_readWhole (by decide) ⟨by decide, by decide⟩ rfl (kR15 hS0.1 ta0) (Nat.le_of_ble_eq_true rfl) rfl rfl (by decide) (by decide) (k_X12_readWhole hS0.1 ta0) ?_
    rintro v27 cn' K' N' I23 R24 L25 ⟨rfl, rfl, rfl, rfl, g26, p28, w29, -⟩
    have hS30 := hS0.tr g26 (by decide +kernel) (by decide +kernel)
    have b31 : 0 ≤ v27.toInt ∧ v27.toInt ≤ 3 := by exact om_55c81950 h15 b18.2 b18.1 h20 h22 p28
    clear p28
    have ov32 := w29.over (by rw [c4]; exact om_394b70a2 p6)
    obtain ⟨v33, c34⟩ : ∃ v, I23 a0 9 = v := ⟨_, rfl⟩
    have b35 := iv15_9 hS30.1 ta0 c34
    obtain ⟨v36, c37⟩ : ∃ v, I23 a0 13 = v := ⟨_, rfl⟩
    obtain ⟨v38, c39⟩ : ∃ v, I23 a0 14 = v := ⟨_, rfl⟩
    (try rw [c34] at ov32)
    (try rw [c37] at ov32)
    (try rw [c39] at ov32)
    (try rw [c4] at ov32)
    (try rw [c8] at ov32)
    (try rw [c10] at ov32)
    refine tr_goto 42 dX12_readEvent_37 (by decide) ?_
    refine tr_istore_n dX12_readEvent_42 (by decide) (by decide) ?_
    refine sf_oE43 hE hZ hS30.1 (gB) ta0 (by (try rw [c34]); first | done | with_reducible assumption | exact om_394b70a2 ov32.1) ⟨_, d2⟩ hl0 hl1 rfl ?_
    rintro I40 R41 L42 ⟨g43, p44, p45, p46, rp47, -⟩
    obtain rfl : R0 = R41 := funext fun a => funext fun j => (g43.2.2 a j (wm_no rfl)).symm
    have hS48 := hS30.tr g43 (by decide +kernel) (by decide +kernel)
    obtain ⟨v49, c50⟩ : ∃ v, I40 a0 9 = v := ⟨_, rfl⟩
    have b51 := iv15_9 hS48.1 ta0 c50
    rw [c50] at p44
    obtain ⟨v52, c53⟩ : ∃ v, I40 a0 13 = v := ⟨_, rfl⟩
    rw [c53] at p45
    rw [c37] at p45
    obtain ⟨v54, c55⟩ : ∃ v, I40 a0 14 = v := ⟨_, rfl⟩
    rw [c55] at p46
    rw [c39] at p46
    exact hq _ _ _ ⟨hS48, (by (try rw [c50]); first | done | with_reducible assumption | omega), (by (try rw [c53]); (try rw [c8]); first | done | with_reducible assumption | exact om_9fa72578 ov32.2.1 p45), (by (try rw [c55]); (try rw [c10]); first | done | with_reducible assumption | exact om_9fa72578 ov32.2.2 p46), (fun b hb => (Option.some.inj (d2.symm.trans hb)) ▸ (((FrM.rf (R := R0) (b := a1) (T := T)).st g26 (by decide +kernel)).st g43 (by decide +kernel))), trivial⟩
  · skip
    refine tr_iload_n dX12_readEvent_18 hl1 ?_
    refine q_iconst dX12_readEvent_19 (by decide) ?_
    intro v56 h57
    refine q_icmp_ne 40 dX12_readEvent_20 (by decide) (fun h58 => ?_) (fun h58 => ?_)
    · skip
      refine q_bipush dX12_readEvent_40 (by decide +kernel) ?_
      intro v59 h60
      refine tr_istore_n dX12_readEvent_42 (by decide) (by decide) ?_
      refine sf_oE43 hE hZ hS0.1 (gB) ta0 (by (try rw [c4]); first | done | with_reducible assumption | omega) ⟨_, d2⟩ hl0 hl1 rfl ?_
      rintro I61 R62 L63 ⟨g64, p65, p66, p67, rp68, -⟩
      obtain rfl : R0 = R62 := funext fun a => funext fun j => (g64.2.2 a j (wm_no rfl)).symm
      have hS69 := hS0.tr g64 (by decide +kernel) (by decide +kernel)
      obtain ⟨v70, c71⟩ : ∃ v, I61 a0 9 = v := ⟨_, rfl⟩
      have b72 := iv15_9 hS69.1 ta0 c71
      rw [c71] at p65
      obtain ⟨v73, c74⟩ : ∃ v, I61 a0 13 = v := ⟨_, rfl⟩
      rw [c74] at p66
      rw [c8] at p66
      obtain ⟨v75, c76⟩ : ∃ v, I61 a0 14 = v := ⟨_, rfl⟩
      rw [c76] at p67
      rw [c10] at p67
      exact hq _ _ _ ⟨hS69, (by (try rw [c71]); first | done | with_reducible assumption | omega), (by (try rw [c74]); (try rw [c8]); first | done | with_reducible assumption | omega), (by (try rw [c76]); (try rw [c10]); first | done | with_reducible assumption | omega), (fun b hb => (Option.some.inj (d2.symm.trans hb)) ▸ ((FrM.rf (R := R0) (b := a1) (T := T)).st g64 (by decide +kernel))), trivial⟩
    · skip
      refine tr_aload_n dX12_readEvent_23 hl0 ?_
      refine q_iconst dX12_readEvent_24 (by decide) ?_
      intro v77 h78
      refine tr_aload_n dX12_readEvent_25 hl0 ?_
      refine tr_getR dX12_readEvent_26 fl12_188 (kR15 hS0.1 ta0) d2 ?_
      obtain ⟨v79, c80⟩ : ∃ v, I0 a1 1 = v := ⟨_, rfl⟩
      have b81 := iv14_1 hW0 ta1 c80
      refine q_getI dX12_readEvent_29 fl12_263 (kR14 hS0.1 ta1) c80 ?_
      refine q_iconst dX12_readEvent_32 (by decide) ?_
      intro v82 h83
      refine q_isubE dX12_readEvent_33 (by intro j1 j2 j3 j4; exact om_529b66b2 b81.2 b81.1 h83) ?_
      intro v84 h85
      refine q_callVi hE (M' := mX12_readWhole) (as := [_, _]) dX12_readEvent_34 lk12_161 inX12_readWhole seX12_readWhole myX12_readWhole (by decide) ⟨by decide, by decide⟩ rfl (kR15 hS0.1 ta0) (Nat.le_of_ble_eq_true rfl) rfl rfl (by decide) (by decide) (k_X12_readWhole hS0.1 ta0) ?_
      rintro v90 cn' K' N' I86 R87 L88 ⟨rfl, rfl, rfl, rfl, g89, p91, w92, -⟩
      have hS93 := hS0.tr g89 (by decide +kernel) (by decide +kernel)
      have b94 : 0 ≤ v90.toInt ∧ v90.toInt ≤ 3 := by exact om_55c81950 h78 b81.2 b81.1 h83 h85 p91
      clear p91
      have ov95 := w92.over (by rw [c4]; exact om_394b70a2 p6)
      obtain ⟨v96, c97⟩ : ∃ v, I86 a0 9 = v := ⟨_, rfl⟩
      have b98 := iv15_9 hS93.1 ta0 c97
      obtain ⟨v99, c100⟩ : ∃ v, I86 a0 13 = v := ⟨_, rfl⟩
      obtain ⟨v101, c102⟩ : ∃ v, I86 a0 14 = v := ⟨_, rfl⟩
      (try rw [c97] at ov95)
      (try rw [c100] at ov95)
      (try rw [c102] at ov95)
      (try rw [c4] at ov95)
      (try rw [c8] at ov95)
      (try rw [c10] at ov95)
      refine tr_goto 42 dX12_readEvent_37 (by decide) ?_
      refine tr_istore_n dX12_readEvent_42 (by decide) (by decide) ?_
      refine sf_oE43 hE hZ hS93.1 (gB) ta0 (by (try rw [c97]); first | done | with_reducible assumption | exact om_394b70a2 ov95.1) ⟨_, d2⟩ hl0 hl1 rfl ?_
      rintro I103 R104 L105 ⟨g106, p107, p108, p109, rp110, -⟩
      obtain rfl : R0 = R104 := funext fun a => funext fun j => (g106.2.2 a j (wm_no rfl)).symm
      have hS111 := hS93.tr g106 (by decide +kernel) (by decide +kernel)
      obtain ⟨v112, c113⟩ : ∃ v, I103 a0 9 = v := ⟨_, rfl⟩
      have b114 := iv15_9 hS111.1 ta0 c113
      rw [c113] at p107
      obtain ⟨v115, c116⟩ : ∃ v, I103 a0 13 = v := ⟨_, rfl⟩
      rw [c116] at p108
      rw [c100] at p108
      obtain ⟨v117, c118⟩ : ∃ v, I103 a0 14 = v := ⟨_, rfl⟩
      rw [c118] at p109
      rw [c102] at p109
      exact hq _ _ _ ⟨hS111, (by (try rw [c113]); first | done | with_reducible assumption | omega), (by (try rw [c116]); (try rw [c8]); first | done | with_reducible assumption | exact om_9fa72578 ov95.2.1 p108), (by (try rw [c118]); (try rw [c10]); first | done | with_reducible assumption | exact om_9fa72578 ov95.2.2 p109), (fun b hb => (Option.some.inj (d2.symm.trans hb)) ▸ (((FrM.rf (R := R0) (b := a1) (T := T)).st g89 (by decide +kernel)).st g106 (by decide +kernel))), trivial⟩
def wik_X12_readEvent : List Nat := [898, 968, 969, 970, 971, 972, 973, 974, 3519, 3583, 3647, 3711]
def wrk_X12_readEvent : List Nat := []
def wlk_X12_readEvent : List Nat := [975]
set_option maxHeartbeats 4000000 in
theorem fk_X12_readEvent {l : Launch} {T : Nat → Nat} {cn : Nat} {K N : Nat → Nat} {I0 : cz_I} {R0 : cz_R} {L0 : cz_L} (hW0 : Wf T cn K N I0 R0 0) (gB : cz_B) (gs : Int) (gQ : Nat → Int) {a0 : Nat} (ta0 : T a0 = 15) {x1 : Int32} (hx1 : 0 ≤ x1.toInt ∧ x1.toInt ≤ 4) (hT : ∀ t, R0 a0 5 = some t → Tx I0 t gB) (hN : ∀ b, R0 a0 4 = some b → NmM I0 R0 L0 b gQ) (pre0 : (I0 a0 9).toInt = (tkM gB gs)) (pre1 : (I0 a0 9).toInt ≤ 4) (pre2 : (I0 a0 10).toInt = (tkS gB gs)) (pre3 : (I0 a0 11).toInt = (tkG gB gs)) (pre4 : (AtW ((tkK gB gs)) ((L0 a0 15).toInt) ((tkW gB gs)))) (pre5 : (AtV ((tkK gB gs)) ((I0 a0 12).toInt) ((tkV gB gs)))) (pre6 : (AtN ((tkK gB gs)) ((I0 a0 8).toInt) ((tkN gB gs)))) (pre7 : (I0 a0 7).toInt = (gB.2)) (pre8 : ∀ b1, R0 a0 4 = some b1 → (I0 b1 0).toInt = (gQ 0)) (pre9 : ∀ b1, R0 a0 4 = some b1 → (I0 b1 1).toInt = (gQ 1)) (pre10 : ∀ b1, R0 a0 4 = some b1 → (I0 b1 2).toInt = (gQ 2)) (pre11 : ∀ b1, R0 a0 4 = some b1 → (I0 b1 3).toInt = (gQ 3)) (pre12 : ∀ b1, R0 a0 4 = some b1 → (I0 b1 4).toInt = (gQ 4)) (pre13 : ∀ b1, R0 a0 4 = some b1 → (I0 b1 5).toInt = (gQ 5)) (pre14 : ∀ b1, R0 a0 4 = some b1 → (I0 b1 6).toInt = (gQ 6)) (pre15 : ∀ b1, R0 a0 4 = some b1 → (I0 b1 9).toInt = (gQ 8)) (pre16 : (Q7M ((gQ 0)) ((gQ 7)))) (pre17 : (tkK gB gs) = 1) (pre18 : (srt gB gs) = x1.toInt) (nn4 : ∃ b, R0 a0 4 = some b) : ConE l mX12_readEvent [.ref a0, .int x1] cn K N I0 R0 L0 (ca_v (fun cn' K' N' I' R' L' => cn = cn' ∧ K = K' ∧ N = N' ∧ R0 = R' ∧ St T cn K N 0 wik_X12_readEvent wrk_X12_readEvent I0 R0 I' R0 ∧ (∀ b, R0 a0 4 = some b → FrM R0 b T I0 I') ∧ (∀ dr, R0 a0 4 = some dr → FrO 14 dr T I0 I') ∧ ((((lnF gB gQ gs) = 0) ∧ (∀ b1, R0 a0 4 = some b1 → (I' b1 0).toInt = (lnQ gB gQ gs 0)) ∧ (∀ b1, R0 a0 4 = some b1 → (I' b1 1).toInt = (lnQ gB gQ gs 1)) ∧ (∀ b1, R0 a0 4 = some b1 → (I' b1 2).toInt = (lnQ gB gQ gs 2)) ∧ (∀ b1, R0 a0 4 = some b1 → (I' b1 3).toInt = (lnQ gB gQ gs 3)) ∧ (∀ b1, R0 a0 4 = some b1 → (I' b1 4).toInt = (lnQ gB gQ gs 4)) ∧ (∀ b1, R0 a0 4 = some b1 → (I' b1 5).toInt = (lnQ gB gQ gs 5)) ∧ (∀ b1, R0 a0 4 = some b1 → (I' b1 6).toInt = (lnQ gB gQ gs 6)) ∧ (∀ b1, R0 a0 4 = some b1 → (I' b1 9).toInt = (lnQ gB gQ gs 8)) ∧ ((I' a0 13).toInt = (I0 a0 13).toInt) ∧ ((I' a0 9).toInt = (tkM gB (lnS gB gQ gs))) ∧ ((I' a0 9).toInt ≤ 4) ∧ ((I' a0 10).toInt = (tkS gB (lnS gB gQ gs))) ∧ ((I' a0 11).toInt = (tkG gB (lnS gB gQ gs))) ∧ ((AtW ((tkK gB (lnS gB gQ gs))) ((L' a0 15).toInt) ((tkW gB (lnS gB gQ gs))))) ∧ ((AtV ((tkK gB (lnS gB gQ gs))) ((I' a0 12).toInt) ((tkV gB (lnS gB gQ gs))))) ∧ ((AtN ((tkK gB (lnS gB gQ gs))) ((I' a0 8).toInt) ((tkN gB (lnS gB gQ gs))))) ∧ LgS T wlk_X12_readEvent L0 L' ∧ (∀ b, R0 a0 4 = some b → NmM I' R0 L' b (lnQ gB gQ gs)) ∧ (∀ E b, R0 a0 4 = some b → AlM I0 R0 b gQ E → AlM I' R0 b (lnQ gB gQ gs) (lnE gB gQ gs E)) ∧ True) ∨ (((lnF gB gQ gs) ≠ 0) ∧ ((I' a0 9).toInt = 5) ∧ ((I' a0 13).toInt = (lnF gB gQ gs)) ∧ ((I' a0 14).toInt = (lnP gB gQ gs)) ∧ True)) ∧ True)) := by
  refine ConE.of (by decide +kernel) rfl (Nat.le_of_ble_eq_true rfl) rfl (fun X hX hZ hE => ?_)
  subst hX
  have hS0 : St T cn K N 0 wik_X12_readEvent wrk_X12_readEvent I0 R0 I0 R0 := St.rf0 hW0
  have hL0 : LgS T wlk_X12_readEvent L0 L0 := LgS.rf0
  obtain ⟨a1, d2⟩ := nn4
  have ta1 : T a1 = 14 := hW0.rsN ta0 rfl d2
  obtain ⟨v3, c4⟩ : ∃ v, I0 a0 9 = v := ⟨_, rfl⟩
  have b5 := iv15_9 hS0.1 ta0 c4
  have p6 := pre0
  rw [c4] at p6
  have p7 := pre1
  rw [c4] at p7
  obtain ⟨v8, c9⟩ : ∃ v, I0 a0 10 = v := ⟨_, rfl⟩
  have b10 := iv15_10 hS0.1 ta0 c9
  have p11 := pre2
  rw [c9] at p11
  obtain ⟨v12, c13⟩ : ∃ v, I0 a0 11 = v := ⟨_, rfl⟩
  have p14 := pre3
  rw [c13] at p14
  obtain ⟨y15, c16⟩ : ∃ v, L0 a0 15 = v := ⟨_, rfl⟩
  have p17 := pre4
  rw [c16] at p17
  obtain ⟨v18, c19⟩ : ∃ v, I0 a0 12 = v := ⟨_, rfl⟩
  have p20 := pre5
  rw [c19] at p20
  obtain ⟨v21, c22⟩ : ∃ v, I0 a0 8 = v := ⟨_, rfl⟩
  have b23 := iv15_8 hS0.1 ta0 c22
  have p24 := pre6
  rw [c22] at p24
  obtain ⟨v25, c26⟩ : ∃ v, I0 a0 7 = v := ⟨_, rfl⟩
  have b27 := iv15_7 hW0 ta0 c26
  have p28 := pre7
  rw [c26] at p28
  obtain ⟨v29, c30⟩ : ∃ v, I0 a1 0 = v := ⟨_, rfl⟩
  have b31 := iv14_0 hW0 ta1 c30
  have p32 := pre8 _ d2
  rw [c30] at p32
  obtain ⟨v33, c34⟩ : ∃ v, I0 a1 1 = v := ⟨_, rfl⟩
  have b35 := iv14_1 hW0 ta1 c34
  have p36 := pre9 _ d2
  rw [c34] at p36
  obtain ⟨v37, c38⟩ : ∃ v, I0 a1 2 = v := ⟨_, rfl⟩
  have b39 := iv14_2 hS0.1 ta1 c38
  have p40 := pre10 _ d2
  rw [c38] at p40
  obtain ⟨v41, c42⟩ : ∃ v, I0 a1 3 = v := ⟨_, rfl⟩
  have b43 := iv14_3 hW0 ta1 c42
  have p44 := pre11 _ d2
  rw [c42] at p44
  obtain ⟨v45, c46⟩ : ∃ v, I0 a1 4 = v := ⟨_, rfl⟩
  have b47 := iv14_4 hW0 ta1 c46
  have p48 := pre12 _ d2
  rw [c46] at p48
  obtain ⟨v49, c50⟩ : ∃ v, I0 a1 5 = v := ⟨_, rfl⟩
  have b51 := iv14_5 hW0 ta1 c50
  have p52 := pre13 _ d2
  rw [c50] at p52
  obtain ⟨v53, c54⟩ : ∃ v, I0 a1 6 = v := ⟨_, rfl⟩
  have b55 := iv14_6 hW0 ta1 c54
  have p56 := pre14 _ d2
  rw [c54] at p56
  obtain ⟨v57, c58⟩ : ∃ v, I0 a1 9 = v := ⟨_, rfl⟩
  have b59 := iv14_9 hW0 ta1 c58
  have p60 := pre15 _ d2
  rw [c58] at p60
  have p61 := pre16
  have p62 := pre17
  have p63 := pre18
  obtain ⟨v64, c65⟩ : ∃ v, I0 a0 13 = v := ⟨_, rfl⟩
  have hM0 := hN _ d2
  have hO0 : FrO 14 a1 T I0 I0 := FrO.rf
  obtain ⟨a66, d67, ta66⟩ := rf14_11 hW0 ta1
  obtain ⟨a68, d69, ta68⟩ := rf14_12 hW0 ta1
  obtain ⟨a70, d71, ta70⟩ := rf14_13 hW0 ta1
  obtain ⟨a72, d73, ta72⟩ := rf14_14 hW0 ta1
  have hF := lnF_ch gB gQ gs
  have hP := lnP_ch gB gQ gs
  replace hF := hF.neg (by exact om_c8593dd0 hx1.2 hx1.1 pre18)
  replace hP := hP.neg (by exact om_c8593dd0 hx1.2 hx1.1 pre18)
  replace hF := hF.neg (by exact om_62f15f34 hx1.2 hx1.1 pre18)
  replace hP := hP.neg (by exact om_62f15f34 hx1.2 hx1.1 pre18)
  have kd74 : x1.toInt = 0 ∨ x1.toInt = 1 ∨ x1.toInt = 2 ∨ x1.toInt = 3 ∨ x1.toInt = 4 := by exact om_32cc62f0 hx1.2 hx1.1 pre18
  rcases kd74 with kd74 | kd74 | kd74 | kd74 | kd74
  · skip
    refine tr_aload_n dX12_readEvent_0 rfl ?_
    refine tr_aload_n dX12_readEvent_1 rfl ?_
    refine tr_getR dX12_readEvent_2 fl12_188 (kR15 hS0.1 ta0) d2 ?_
    refine q_getI dX12_readEvent_5 fl12_265 (kR14 hS0.1 ta1) c38 ?_
    refine q_bipush dX12_readEvent_8 (by decide +kernel) ?_
    intro v75 h76
    refine q_callVv hE (M' := mX12_begins) (as := [_, _]) dX12_readEvent_10 lk12_268 inX12_begins seX12_begins myX12_begins (by decide) ⟨by decide, by decide⟩ rfl (kR15 hS0.1 ta0) (Nat.le_of_ble_eq_true rfl) rfl rfl (by decide) (by decide) (fk_X12_begins hS0.1 (gB) (gs) (gQ) ta0 (TxA.kp hT hS0 ta0 rfl rfl rfl (by decide +kernel) (by decide +kernel)) (by (try rw [c4]); first | done | with_reducible assumption | omega) (by (try rw [c4]); first | done | with_reducible assumption | omega) (by (try rw [c9]); first | done | with_reducible assumption | omega) (by (try rw [c13]); first | done | with_reducible assumption | omega) (by (try rw [c16]); first | done | assumption) (by (try rw [c19]); first | done | assumption) (by (try rw [c22]); first | done | assumption) (by (try rw [c26]); first | done | with_reducible assumption | omega) (fun q0 z0 => by obtain rfl := Option.some.inj ((d2).symm.trans z0); (try rw [c30]); first | done | with_reducible assumption | omega) (by first | done | with_reducible assumption | omega) ⟨_, d2⟩) ?_
    rintro cn' K' N' I77 R78 L79 ⟨rfl, rfl, rfl, rfl, g80, dj83, -⟩
    have hM84 : NmM I77 R0 L0 a1 gQ := NmM.kpS hM0 g80 hS0.1 ta1 (by decide +kernel) (by decide +kernel)
    have hS85 := hS0.tr g80 (by decide +kernel) (by decide +kernel)
    have c86 : I77 a1 2 = v37 := (g80.cell ta1 (by decide +kernel)).trans c38
    have hO87 : FrO 14 a1 T I0 I77 := hO0.st g80 (by decide +kernel)
    rcases dj83 with ⟨p88, p89, p90, p91, p92, p93, p94, p95, p96, p97, gl98, -⟩ | ⟨p99, p100, p101, p102, -⟩ | ⟨p103, p104, p105, p106, p107, -⟩
    · skip
      have hL108 := hL0.tr gl98 (by decide +kernel)
      have hM109 : NmM I77 R0 L79 a1 gQ := NmM.kpL hM84 gl98 hS85.1 ta1 (by decide +kernel)
      obtain ⟨v110, c111⟩ : ∃ v, I77 a0 13 = v := ⟨_, rfl⟩
      rw [c111] at p90
      rw [c65] at p90
      obtain ⟨v112, c113⟩ : ∃ v, I77 a0 9 = v := ⟨_, rfl⟩
      have b114 := iv15_9 hS85.1 ta0 c113
      rw [c113] at p91
      rw [c113] at p92
      obtain ⟨v115, c116⟩ : ∃ v, I77 a0 10 = v := ⟨_, rfl⟩
      have b117 := iv15_10 hS85.1 ta0 c116
      rw [c116] at p93
      obtain ⟨v118, c119⟩ : ∃ v, I77 a0 11 = v := ⟨_, rfl⟩
      rw [c119] at p94
      obtain ⟨y120, c121⟩ : ∃ v, L79 a0 15 = v := ⟨_, rfl⟩
      rw [c121] at p95
      obtain ⟨v122, c123⟩ : ∃ v, I77 a0 12 = v := ⟨_, rfl⟩
      rw [c123] at p96
      obtain ⟨v124, c125⟩ : ∃ v, I77 a0 8 = v := ⟨_, rfl⟩
      have b126 := iv15_8 hS85.1 ta0 c125
      rw [c125] at p97
      have p127 := p61
      unfold Q7M at p127
      replace hF := hF.neg (by exact om_f73a7bb7 pre18 b31.2 b31.1 p32 b39.2 b39.1 p40 kd74 h76 p88 p89 p127)
      replace hP := hP.neg (by exact om_f73a7bb7 pre18 b31.2 b31.1 p32 b39.2 b39.1 p40 kd74 h76 p88 p89 p127)
      replace hF := hF.neg (by exact om_c0495bd2 pre18 kd74 p89 p127)
      replace hP := hP.neg (by exact om_c0495bd2 pre18 kd74 p89 p127)
      clear p127
      obtain ⟨w128, w129, w130, w131, w132, w133, w134, w135, w136, w137, w138, w139⟩ := lnl_e (B := gB) (Q := gQ) (s := gs) (by exact om_61d53325 pre18 kd74) (by exact om_a4c35619 pre18 kd74)
      replace hF := hF.to w128 (evF_c0 (B := gB) (Q := gQ) (k := srt gB gs) (s := (tkN gB gs)) (by exact om_61d53325 pre18 kd74) (by exact om_e8b092fc pre18 kd74))
      replace hP := hP.to w129 (evP_c0 (B := gB) (Q := gQ) (k := srt gB gs) (s := (tkN gB gs)) (by exact om_61d53325 pre18 kd74) (by exact om_e8b092fc pre18 kd74))
      refine tr_iload_n dX12_readEvent_13 rfl ?_
      refine q_iconst dX12_readEvent_14 (by decide) ?_
      intro v140 h141
      refine q_icmp_eq 23 dX12_readEvent_15 (by decide) (fun h142 => ?_) (fun h142 => ?_)
      · skip
        exfalso; exact om_f20c1bb1 pre18 kd74 h141 h142
      · skip
        refine tr_iload_n dX12_readEvent_18 rfl ?_
        refine q_iconst dX12_readEvent_19 (by decide) ?_
        intro v143 h144
        refine q_icmp_ne 40 dX12_readEvent_20 (by decide) (fun h145 => ?_) (fun h145 => ?_)
        · skip
          refine q_bipush dX12_readEvent_40 (by decide +kernel) ?_
          intro v146 h147
          refine tr_istore_n dX12_readEvent_42 (by decide) (by decide) ?_
          refine tr_aload_n dX12_readEvent_43 rfl ?_
          refine q_iconst dX12_readEvent_44 (by decide) ?_
          intro v148 h149
          refine tr_aload_n dX12_readEvent_45 rfl ?_
          refine tr_getR dX12_readEvent_46 fl12_188 (kR15 hS85.1 ta0) d2 ?_
          refine q_getI dX12_readEvent_49 fl12_192 (kR14 hS85.1 ta1) ((hS85.cell ta1 (by decide +kernel)).trans c30) ?_
          refine q_iconst dX12_readEvent_52 (by decide) ?_
          intro v150 h151
          refine q_isubE dX12_readEvent_53 (by intro j1 j2 j3 j4; exact om_6479810f b31.2 b31.1 p32 w131 h151) ?_
          intro v152 h153
          refine q_callVi hE (M' := mX12_readWhole) (as := [_, _]) dX12_readEvent_54 lk12_161 inX12_readWhole seX12_readWhole myX12_readWhole (by decide) ⟨by decide, by decide⟩ rfl (kR15 hS85.1 ta0) (Nat.le_of_ble_eq_true rfl) rfl rfl (by decide) (by decide) (fk_X12_readWhole hS85.1 (gB) ((tkN gB gs)) ta0 (TxA.kp hT hS85 ta0 rfl rfl rfl (by decide +kernel) (by decide +kernel)) (by (try rw [c113]); first | done | with_reducible assumption | omega) (by (try rw [c113]); first | done | with_reducible assumption | omega) (by (try rw [c116]); first | done | with_reducible assumption | omega) (by (try rw [c119]); first | done | with_reducible assumption | omega) (by (try rw [c121]); first | done | assumption) (by (try rw [c123]); first | done | assumption) (by (try rw [c125]); first | done | assumption) (by (try rw [((hS85.cell ta0 (by decide +kernel)).trans c26)]); first | done | with_reducible assumption | omega)) ?_
          rintro v159 cn' K' N' I154 R155 L156 ⟨rfl, rfl, rfl, rfl, g157, dj160, -⟩
          have hM161 : NmM I154 R0 L79 a1 gQ := NmM.kpS hM109 g157 hS85.1 ta1 (by decide +kernel) (by decide +kernel)
          have hS162 := hS85.tr g157 (by decide +kernel) (by decide +kernel)
          have c163 : I154 a1 2 = v37 := (g157.cell ta1 (by decide +kernel)).trans c86
          have hO164 : FrO 14 a1 T I0 I154 := hO87.st g157 (by decide +kernel)
          rcases dj160 with ⟨p165, p166, p167, p168, p169, p170, p171, p172, p173, p174, p175, p176, gl177, -⟩ | ⟨p178, p179, p180, p181, p182, -⟩ | ⟨p183, p184, p185, p186, p187, p188, -⟩
          · skip
            have hL189 := hL108.tr gl177 (by decide +kernel)
            have hM190 : NmM I154 R0 L156 a1 gQ := NmM.kpL hM161 gl177 hS162.1 ta1 (by decide +kernel)
            obtain ⟨v191, c192⟩ : ∃ v, I154 a0 13 = v := ⟨_, rfl⟩
            rw [c192] at p169
            rw [c111] at p169
            obtain ⟨v193, c194⟩ : ∃ v, I154 a0 9 = v := ⟨_, rfl⟩
            have b195 := iv15_9 hS162.1 ta0 c194
            rw [c194] at p170
            rw [c194] at p171
            obtain ⟨v196, c197⟩ : ∃ v, I154 a0 10 = v := ⟨_, rfl⟩
            have b198 := iv15_10 hS162.1 ta0 c197
            rw [c197] at p172
            obtain ⟨v199, c200⟩ : ∃ v, I154 a0 11 = v := ⟨_, rfl⟩
            rw [c200] at p173
            obtain ⟨y201, c202⟩ : ∃ v, L156 a0 15 = v := ⟨_, rfl⟩
            rw [c202] at p174
            obtain ⟨v203, c204⟩ : ∃ v, I154 a0 12 = v := ⟨_, rfl⟩
            rw [c204] at p175
            obtain ⟨v205, c206⟩ : ∃ v, I154 a0 8 = v := ⟨_, rfl⟩
            have b207 := iv15_8 hS162.1 ta0 c206
            rw [c206] at p176
            replace hF := hF.neg (by exact om_10ed11b5 p166)
            replace hP := hP.neg (by exact om_10ed11b5 p166)
            replace hF := hF.neg (by exact om_4062d996 p32 w131 h149 h151 h153 p167 p168)
            replace hP := hP.neg (by exact om_4062d996 p32 w131 h149 h151 h153 p167 p168)
            refine tr_istore_n dX12_readEvent_57 (by decide) (by decide) ?_
            refine tr_iload_n dX12_readEvent_58 rfl ?_
            refine q_iconst dX12_readEvent_59 (by decide) ?_
            intro v208 h209
            refine q_icmp_ne 69 dX12_readEvent_60 (by decide) (fun h210 => ?_) (fun h210 => ?_)
            · skip
              refine tr_aload_n dX12_readEvent_69 rfl ?_
              refine tr_ldcwS dX12_readEvent_70 ld12_272 ?_
              refine tr_iload_n dX12_readEvent_73 rfl ?_
              refine q_iconst dX12_readEvent_74 (by decide) ?_
              intro v211 h212
              refine q_iaddE dX12_readEvent_75 (by intro j1 j2 j3 j4; exact om_5e7b6990 b31.2 b31.1 p32 w131 h149 h151 h153 p165 p167 p168 h212 j2) ?_
              intro v213 h214
              refine tr_aload_n dX12_readEvent_76 rfl ?_
              refine tr_getR dX12_readEvent_77 fl12_188 (kR15 hS162.1 ta0) d2 ?_
              refine q_getI dX12_readEvent_80 fl12_192 (kR14 hS162.1 ta1) ((hS162.cell ta1 (by decide +kernel)).trans c30) ?_
              refine q_callVi hE (M' := mX12_readPart) (as := [_, _, _]) dX12_readEvent_83 lk12_249 inX12_readPart seX12_readPart myX12_readPart (by decide) ⟨by decide, by decide⟩ rfl (kR15 hS162.1 ta0) (Nat.le_of_ble_eq_true rfl) rfl rfl (by decide) (by decide) (fk_X12_readPart hS162.1 (gB) ((tkN gB (tkN gB gs))) ta0 (by decide) (TxA.kp hT hS162 ta0 rfl rfl rfl (by decide +kernel) (by decide +kernel)) (by (try rw [c194]); first | done | with_reducible assumption | omega) (by (try rw [c194]); first | done | with_reducible assumption | omega) (by (try rw [c197]); first | done | with_reducible assumption | omega) (by (try rw [c200]); first | done | with_reducible assumption | omega) (by (try rw [c202]); first | done | assumption) (by (try rw [c204]); first | done | assumption) (by (try rw [c206]); first | done | assumption) (by (try rw [((hS162.cell ta0 (by decide +kernel)).trans c26)]); first | done | with_reducible assumption | omega)) ?_
              rintro v220 cn' K' N' I215 R216 L217 ⟨rfl, rfl, rfl, rfl, g218, dj221, -⟩
              (try rw [pk_25] at dj221)
              have hM222 : NmM I215 R0 L156 a1 gQ := NmM.kpS hM190 g218 hS162.1 ta1 (by decide +kernel) (by decide +kernel)
              have hS223 := hS162.tr g218 (by decide +kernel) (by decide +kernel)
              have c224 : I215 a1 2 = v37 := (g218.cell ta1 (by decide +kernel)).trans c163
              have hO225 : FrO 14 a1 T I0 I215 := hO164.st g218 (by decide +kernel)
              rcases dj221 with ⟨p226, p227, p228, p229, p230, p231, p232, p233, p234, p235, p236, p237, p238, p239, gl240, -⟩ | ⟨p241, p242, p243, p244, p245, -⟩ | ⟨p246, p247, p248, p249, p250, p251, p252, -⟩ | ⟨p253, p254, p255, p256, p257, p258, p259, p260, -⟩
              · skip
                have hL261 := hL189.tr gl240 (by decide +kernel)
                have hM262 : NmM I215 R0 L217 a1 gQ := NmM.kpL hM222 gl240 hS223.1 ta1 (by decide +kernel)
                obtain ⟨v263, c264⟩ : ∃ v, I215 a0 13 = v := ⟨_, rfl⟩
                rw [c264] at p232
                rw [c192] at p232
                obtain ⟨v265, c266⟩ : ∃ v, I215 a0 9 = v := ⟨_, rfl⟩
                have b267 := iv15_9 hS223.1 ta0 c266
                rw [c266] at p233
                rw [c266] at p234
                obtain ⟨v268, c269⟩ : ∃ v, I215 a0 10 = v := ⟨_, rfl⟩
                have b270 := iv15_10 hS223.1 ta0 c269
                rw [c269] at p235
                obtain ⟨v271, c272⟩ : ∃ v, I215 a0 11 = v := ⟨_, rfl⟩
                rw [c272] at p236
                obtain ⟨y273, c274⟩ : ∃ v, L217 a0 15 = v := ⟨_, rfl⟩
                rw [c274] at p237
                obtain ⟨v275, c276⟩ : ∃ v, I215 a0 12 = v := ⟨_, rfl⟩
                rw [c276] at p238
                obtain ⟨v277, c278⟩ : ∃ v, I215 a0 8 = v := ⟨_, rfl⟩
                have b279 := iv15_8 hS223.1 ta0 c278
                rw [c278] at p239
                replace hF := hF.neg (by exact om_04941ac6 p227 p228)
                replace hP := hP.neg (by exact om_04941ac6 p227 p228)
                replace hF := hF.neg (by exact om_10ed11b5 p229)
                replace hP := hP.neg (by exact om_10ed11b5 p229)
                replace hF := hF.neg (by exact om_11a1fbca p32 w131 h151 h153 p165 h212 h214 p230 p231)
                replace hP := hP.neg (by exact om_11a1fbca p32 w131 h151 h153 p165 h212 h214 p230 p231)
                refine tr_istore dX12_readEvent_86 (by decide) (by decide) ?_
                refine tr_aload_n dX12_readEvent_88 rfl ?_
                refine q_getI dX12_readEvent_89 fl12_99 (kR15 hS223.1 ta0) c266 ?_
                refine q_iconst dX12_readEvent_92 (by decide) ?_
                intro v280 h281
                refine q_icmp_ne 97 dX12_readEvent_93 (by decide) (fun h282 => ?_) (fun h282 => ?_)
                · skip
                  refine tr_aload_n dX12_readEvent_97 rfl ?_
                  refine tr_getR dX12_readEvent_98 fl12_188 (kR15 hS223.1 ta0) d2 ?_
                  refine q_getI dX12_readEvent_101 fl12_265 (kR14 hS223.1 ta1) c224 ?_
                  refine tr_istore dX12_readEvent_104 (by decide) (by decide) ?_
                  refine tr_aload_n dX12_readEvent_106 rfl ?_
                  refine tr_getR dX12_readEvent_107 fl12_188 (kR15 hS223.1 ta0) d2 ?_
                  refine tr_getR dX12_readEvent_110 fl12_274 (kR14 hS223.1 ta1) d67 ?_
                  refine tr_iload dX12_readEvent_113 rfl ?_
                  refine tr_iload_n dX12_readEvent_115 rfl ?_
                  refine q_iastX dX12_readEvent_116 (kR54 hS223.1 ta66) (ti_in (nR54 hS223.1 ta66) (by exact om_b14f9e1e b39.2 b39.1 p40 w133) (by exact om_23fe4ccc pre18 b31.2 b31.1 p32 b39.2 b39.1 p40 kd74 h76 p88 p89 w131 w133 h141 h142 h144 h145 h151 h153 h209 h210 p234 p233 b267.1 h281 h282)) hS223 ta66 (by rfl) (hS223.1.putK (m := a1) ta1 d67 (by rw [c224]; exact Int.le_of_eq (ti_nat (by exact om_b14f9e1e b39.2 b39.1 p40 w133)).symm)) ?_
                  intro I287 hS288 e289 f290
                  have c291 : I287 a1 2 = v37 := (f290 _ _ (fun q => by have z := ta1; rw [q.1, ta66] at z; exact absurd z (by decide))).trans c224
                  have c292 : I287 a0 13 = v263 := (f290 _ _ (fun q => by have z := ta0; rw [q.1, ta66] at z; exact absurd z (by decide))).trans c264
                  have c293 : I287 a0 9 = v265 := (f290 _ _ (fun q => by have z := ta0; rw [q.1, ta66] at z; exact absurd z (by decide))).trans c266
                  have c294 : I287 a0 10 = v268 := (f290 _ _ (fun q => by have z := ta0; rw [q.1, ta66] at z; exact absurd z (by decide))).trans c269
                  have c295 : I287 a0 11 = v271 := (f290 _ _ (fun q => by have z := ta0; rw [q.1, ta66] at z; exact absurd z (by decide))).trans c272
                  have c296 : I287 a0 12 = v275 := (f290 _ _ (fun q => by have z := ta0; rw [q.1, ta66] at z; exact absurd z (by decide))).trans c276
                  have c297 : I287 a0 8 = v277 := (f290 _ _ (fun q => by have z := ta0; rw [q.1, ta66] at z; exact absurd z (by decide))).trans c278
                  have hO298 : FrO 14 a1 T I0 I287 := hO225.put f290 ta66 (Or.inl (by decide))
                  have hM299 : NmM I287 R0 L217 a1 gQ := NmM.kp1 hM262 f290 ta66 rfl rfl hS223.1 ta1
                  refine tr_aload_n dX12_readEvent_117 rfl ?_
                  refine tr_getR dX12_readEvent_118 fl12_188 (kR15 hS288.1 ta0) d2 ?_
                  refine tr_getR dX12_readEvent_121 fl12_277 (kR14 hS288.1 ta1) d69 ?_
                  refine tr_iload dX12_readEvent_124 rfl ?_
                  refine tr_iload_n dX12_readEvent_126 rfl ?_
                  refine q_iastX dX12_readEvent_127 (kR55 hS288.1 ta68) (ti_in (nR55 hS288.1 ta68) (by exact om_b14f9e1e b39.2 b39.1 p40 w133) (by exact om_23fe4ccc pre18 b31.2 b31.1 p32 b39.2 b39.1 p40 kd74 h76 p88 p89 w131 w133 h141 h142 h144 h145 h151 h153 h209 h210 p234 p233 b267.1 h281 h282)) hS288 ta68 (by rfl) (hS288.1.putH (m := a1) ta1 d69 (by rw [c291]; exact Int.le_of_eq (ti_nat (by exact om_b14f9e1e b39.2 b39.1 p40 w133)).symm) (by exact om_9bdeced0 h147)) ?_
                  intro I304 hS305 e306 f307
                  have c308 : I304 a1 2 = v37 := (f307 _ _ (fun q => by have z := ta1; rw [q.1, ta68] at z; exact absurd z (by decide))).trans c291
                  have c309 : I304 a0 13 = v263 := (f307 _ _ (fun q => by have z := ta0; rw [q.1, ta68] at z; exact absurd z (by decide))).trans c292
                  have c310 : I304 a0 9 = v265 := (f307 _ _ (fun q => by have z := ta0; rw [q.1, ta68] at z; exact absurd z (by decide))).trans c293
                  have c311 : I304 a0 10 = v268 := (f307 _ _ (fun q => by have z := ta0; rw [q.1, ta68] at z; exact absurd z (by decide))).trans c294
                  have c312 : I304 a0 11 = v271 := (f307 _ _ (fun q => by have z := ta0; rw [q.1, ta68] at z; exact absurd z (by decide))).trans c295
                  have c313 : I304 a0 12 = v275 := (f307 _ _ (fun q => by have z := ta0; rw [q.1, ta68] at z; exact absurd z (by decide))).trans c296
                  have c314 : I304 a0 8 = v277 := (f307 _ _ (fun q => by have z := ta0; rw [q.1, ta68] at z; exact absurd z (by decide))).trans c297
                  have c315 : I304 a66 v37.toNatClampNeg = x1 := (f307 _ _ (fun q => by have z := ta66; rw [q.1, ta68] at z; exact absurd z (by decide))).trans e289
                  have hO316 : FrO 14 a1 T I0 I304 := hO298.put f307 ta68 (Or.inl (by decide))
                  have hM317 : NmM I304 R0 L217 a1 gQ := NmM.kp1 hM299 f307 ta68 rfl rfl hS288.1 ta1
                  refine tr_aload_n dX12_readEvent_128 rfl ?_
                  refine tr_getR dX12_readEvent_129 fl12_188 (kR15 hS305.1 ta0) d2 ?_
                  refine tr_getR dX12_readEvent_132 fl12_280 (kR14 hS305.1 ta1) d71 ?_
                  refine tr_iload dX12_readEvent_135 rfl ?_
                  refine tr_iload_n dX12_readEvent_137 rfl ?_
                  refine q_iast dX12_readEvent_138 (kR56 hS305.1 ta70) (ti_in (nR56 hS305.1 ta70) (by exact om_b14f9e1e b39.2 b39.1 p40 w133) (by exact om_23fe4ccc pre18 b31.2 b31.1 p32 b39.2 b39.1 p40 kd74 h76 p88 p89 w131 w133 h141 h142 h144 h145 h151 h153 h209 h210 p234 p233 b267.1 h281 h282)) hS305 ta70 (by show (0 : Int) ≤ v159.toInt ∧ v159.toInt ≤ (240 : Int); exact om_0f0d8164 b31.2 b31.1 p32 w131 h149 h151 h153 p165 p167 p168 h212 h214) rfl (by rfl) ?_
                  intro I318 hS319 e321 f320
                  have c322 : I318 a1 2 = v37 := (f320 _ _ (fun q => by have z := ta1; rw [q.1, ta70] at z; exact absurd z (by decide))).trans c308
                  have c323 : I318 a0 13 = v263 := (f320 _ _ (fun q => by have z := ta0; rw [q.1, ta70] at z; exact absurd z (by decide))).trans c309
                  have c324 : I318 a0 9 = v265 := (f320 _ _ (fun q => by have z := ta0; rw [q.1, ta70] at z; exact absurd z (by decide))).trans c310
                  have c325 : I318 a0 10 = v268 := (f320 _ _ (fun q => by have z := ta0; rw [q.1, ta70] at z; exact absurd z (by decide))).trans c311
                  have c326 : I318 a0 11 = v271 := (f320 _ _ (fun q => by have z := ta0; rw [q.1, ta70] at z; exact absurd z (by decide))).trans c312
                  have c327 : I318 a0 12 = v275 := (f320 _ _ (fun q => by have z := ta0; rw [q.1, ta70] at z; exact absurd z (by decide))).trans c313
                  have c328 : I318 a0 8 = v277 := (f320 _ _ (fun q => by have z := ta0; rw [q.1, ta70] at z; exact absurd z (by decide))).trans c314
                  have c329 : I318 a66 v37.toNatClampNeg = x1 := (f320 _ _ (fun q => by have z := ta66; rw [q.1, ta70] at z; exact absurd z (by decide))).trans c315
                  have c330 : I318 a68 v37.toNatClampNeg = v146 := (f320 _ _ (fun q => by have z := ta68; rw [q.1, ta70] at z; exact absurd z (by decide))).trans e306
                  have hO331 : FrO 14 a1 T I0 I318 := hO316.put f320 ta70 (Or.inl (by decide))
                  have hM332 : NmM I318 R0 L217 a1 gQ := NmM.kp1 hM317 f320 ta70 rfl rfl hS305.1 ta1
                  refine tr_aload_n dX12_readEvent_139 rfl ?_
                  refine tr_getR dX12_readEvent_140 fl12_188 (kR15 hS319.1 ta0) d2 ?_
                  refine tr_getR dX12_readEvent_143 fl12_283 (kR14 hS319.1 ta1) d73 ?_
                  refine tr_iload dX12_readEvent_146 rfl ?_
                  refine tr_iload dX12_readEvent_148 rfl ?_
                  refine q_iast dX12_readEvent_150 (kR57 hS319.1 ta72) (ti_in (nR57 hS319.1 ta72) (by exact om_b14f9e1e b39.2 b39.1 p40 w133) (by exact om_23fe4ccc pre18 b31.2 b31.1 p32 b39.2 b39.1 p40 kd74 h76 p88 p89 w131 w133 h141 h142 h144 h145 h151 h153 h209 h210 p234 p233 b267.1 h281 h282)) hS319 ta72 (by show (0 : Int) ≤ v220.toInt ∧ v220.toInt ≤ (240 : Int); exact om_6c1edee8 b31.2 b31.1 p32 w131 h149 h151 h153 p165 p167 h212 h214 p226 p230 p231) rfl (by rfl) ?_
                  intro I333 hS334 e336 f335
                  have c337 : I333 a1 2 = v37 := (f335 _ _ (fun q => by have z := ta1; rw [q.1, ta72] at z; exact absurd z (by decide))).trans c322
                  have c338 : I333 a0 13 = v263 := (f335 _ _ (fun q => by have z := ta0; rw [q.1, ta72] at z; exact absurd z (by decide))).trans c323
                  have c339 : I333 a0 9 = v265 := (f335 _ _ (fun q => by have z := ta0; rw [q.1, ta72] at z; exact absurd z (by decide))).trans c324
                  have c340 : I333 a0 10 = v268 := (f335 _ _ (fun q => by have z := ta0; rw [q.1, ta72] at z; exact absurd z (by decide))).trans c325
                  have c341 : I333 a0 11 = v271 := (f335 _ _ (fun q => by have z := ta0; rw [q.1, ta72] at z; exact absurd z (by decide))).trans c326
                  have c342 : I333 a0 12 = v275 := (f335 _ _ (fun q => by have z := ta0; rw [q.1, ta72] at z; exact absurd z (by decide))).trans c327
                  have c343 : I333 a0 8 = v277 := (f335 _ _ (fun q => by have z := ta0; rw [q.1, ta72] at z; exact absurd z (by decide))).trans c328
                  have c344 : I333 a66 v37.toNatClampNeg = x1 := (f335 _ _ (fun q => by have z := ta66; rw [q.1, ta72] at z; exact absurd z (by decide))).trans c329
                  have c345 : I333 a68 v37.toNatClampNeg = v146 := (f335 _ _ (fun q => by have z := ta68; rw [q.1, ta72] at z; exact absurd z (by decide))).trans c330
                  have hO346 : FrO 14 a1 T I0 I333 := hO331.put f335 ta72 (Or.inl (by decide))
                  have hM347 : NmM I333 R0 L217 a1 gQ := NmM.kp1 hM332 f335 ta72 rfl rfl hS319.1 ta1
                  refine tr_aload_n dX12_readEvent_151 rfl ?_
                  refine tr_getR dX12_readEvent_152 fl12_188 (kR15 hS334.1 ta0) d2 ?_
                  refine tr_dup dX12_readEvent_155 rfl ?_
                  refine q_getI dX12_readEvent_156 fl12_265 (kR14 hS334.1 ta1) c337 ?_
                  refine q_iconst dX12_readEvent_159 (by decide) ?_
                  intro v348 h349
                  refine q_iaddE dX12_readEvent_160 (by intro j1 j2 j3 j4; exact om_a5745fee b39.2 b39.1 p40 w133 h349) ?_
                  intro v350 h351
                  refine q_putX dX12_readEvent_161 fl12_265 (kR14 hS334.1 ta1) (Or.inl rfl) hS334 ta1 (by decide +kernel) (hS334.1.putE (i := v37.toNatClampNeg) ta1 d67 d69 (by rw [c337]; exact (ti_nat (by exact om_74bf4760 b39.2 b39.1 p40 w133 h349 h351)).symm) (by rw [c337]; exact om_5a680f8c p40 w133 h349 h351) (by exact om_9c51eafe pre18 b31.2 b31.1 p32 b39.2 b39.1 p40 kd74 h76 p88 p89 w131 w133 h141 h142 h144 h145 h151 h153 h209 h210 p234 p233 b267.1 h281 h282 h349 h351) (by rw [c344, c345]; exact om_e733af13 pre18 kd74)) ?_
                  intro I352 hS353 e354 f355
                  have c356 : I352 a0 13 = v263 := (f355 _ _ (fun q => absurd q.2 (by decide))).trans c338
                  have c357 : I352 a0 9 = v265 := (f355 _ _ (fun q => absurd q.2 (by decide))).trans c339
                  have c358 : I352 a0 10 = v268 := (f355 _ _ (fun q => absurd q.2 (by decide))).trans c340
                  have c359 : I352 a0 11 = v271 := (f355 _ _ (fun q => absurd q.2 (by decide))).trans c341
                  have c360 : I352 a0 12 = v275 := (f355 _ _ (fun q => absurd q.2 (by decide))).trans c342
                  have c361 : I352 a0 8 = v277 := (f355 _ _ (fun q => absurd q.2 (by decide))).trans c343
                  have c362 : I352 a66 v37.toNatClampNeg = x1 := (f355 _ _ (fun q => by have z := ta66; rw [q.1, ta1] at z; exact absurd z (by decide))).trans c344
                  have c363 : I352 a68 v37.toNatClampNeg = v146 := (f355 _ _ (fun q => by have z := ta68; rw [q.1, ta1] at z; exact absurd z (by decide))).trans c345
                  have hO364 : FrO 14 a1 T I0 I352 := hO346.put f355 ta1 (Or.inr rfl)
                  have hM365 : NmM I352 R0 L217 a1 gQ := NmM.kp1 hM347 f355 ta1 rfl rfl hS334.1 ta1
                  have eF := hF.eq
                  have eP := hP.eq
                  have es366 := evS_c0 (B := gB) (Q := gQ) (k := srt gB gs) (s := (tkN gB gs)) (by exact om_61d53325 pre18 kd74) (by exact om_e8b092fc pre18 kd74)
                  obtain ⟨v367, c368⟩ : ∃ v, I352 a0 14 = v := ⟨_, rfl⟩
                  exact tr_vret hZ dX12_readEvent_164 rfl (by decide) (by decide) ⟨rfl, rfl, rfl, rfl, rfl, hS353, (fun b hb => (Option.some.inj (d2.symm.trans hb)) ▸ (((((((((FrM.rf (R := R0) (b := a1) (T := T)).st g80 (by decide +kernel)).st g157 (by decide +kernel)).st g218 (by decide +kernel)).pu f290 (by decide) (by decide) d67).pu f307 (by decide) (by decide) d69).pu f320 (by decide) (by decide) d71).pu f335 (by decide) (by decide) d73).put f355 ta1 (by decide))), (fun dr hd => (Option.some.inj (d2.symm.trans hd)) ▸ hO364), (Or.inl ⟨(by (try rw [w130]); (try rw [es366]); first | done | with_reducible assumption | omega), (fun q0 z0 => by obtain rfl := Option.some.inj ((d2).symm.trans z0); (try rw [w130]); (try rw [es366]); (try rw [((hS353.cell ta1 (by decide +kernel)).trans c30)]); first | done | with_reducible assumption | exact om_2757374c p32 w131), (fun q0 z0 => by obtain rfl := Option.some.inj ((d2).symm.trans z0); (try rw [w130]); (try rw [es366]); (try rw [((hS353.cell ta1 (by decide +kernel)).trans c34)]); first | done | with_reducible assumption | exact om_2757374c p36 w132), (fun q0 z0 => by obtain rfl := Option.some.inj ((d2).symm.trans z0); (try rw [w130]); (try rw [es366]); (try rw [e354]); first | done | with_reducible assumption | exact om_7149e5be p40 w133 h349 h351), (fun q0 z0 => by obtain rfl := Option.some.inj ((d2).symm.trans z0); (try rw [w130]); (try rw [es366]); (try rw [((hS353.cell ta1 (by decide +kernel)).trans c42)]); first | done | with_reducible assumption | exact om_2757374c p44 w134), (fun q0 z0 => by obtain rfl := Option.some.inj ((d2).symm.trans z0); (try rw [w130]); (try rw [es366]); (try rw [((hS353.cell ta1 (by decide +kernel)).trans c46)]); first | done | with_reducible assumption | exact om_2757374c p48 w135), (fun q0 z0 => by obtain rfl := Option.some.inj ((d2).symm.trans z0); (try rw [w130]); (try rw [es366]); (try rw [((hS353.cell ta1 (by decide +kernel)).trans c50)]); first | done | with_reducible assumption | exact om_2757374c p52 w136), (fun q0 z0 => by obtain rfl := Option.some.inj ((d2).symm.trans z0); (try rw [w130]); (try rw [es366]); (try rw [((hS353.cell ta1 (by decide +kernel)).trans c54)]); first | done | with_reducible assumption | exact om_2757374c p56 w137), (fun q0 z0 => by obtain rfl := Option.some.inj ((d2).symm.trans z0); (try rw [w130]); (try rw [es366]); (try rw [((hS353.cell ta1 (by decide +kernel)).trans c58)]); first | done | with_reducible assumption | exact om_2757374c p60 w139), (by (try rw [w130]); (try rw [es366]); (try rw [c356]); (try rw [c65]); first | done | with_reducible assumption | exact om_1c22ab7e p90 p169 p232), (by (try rw [w130]); (try rw [es366]); (try rw [c357]); first | done | with_reducible assumption | omega), (by (try rw [w130]); (try rw [es366]); (try rw [c357]); first | done | with_reducible assumption | omega), (by (try rw [w130]); (try rw [es366]); (try rw [c358]); first | done | with_reducible assumption | omega), (by (try rw [w130]); (try rw [es366]); (try rw [c359]); first | done | with_reducible assumption | omega), (by (try rw [w130]); (try rw [es366]); (try rw [c274]); first | done | assumption), (by (try rw [w130]); (try rw [es366]); (try rw [c360]); first | done | assumption), (by (try rw [w130]); (try rw [es366]); (try rw [c361]); first | done | assumption), hL261, (fun b hb => (Option.some.inj (d2.symm.trans hb)) ▸ NmM.ln (NmM.bd (k := srt gB gs) hM365 (by exact om_e7eda1ab pre18 kd74) (by exact om_0dac72c5 pre18 kd74)) rfl), (fun E b hb hE => by obtain rfl := Option.some.inj (d2.symm.trans hb); exact AlM.ev hE hW0 ta1 (by exact om_61d53325 pre18 kd74) (by exact om_a4c35619 pre18 kd74) (by exact om_145f2c8e b39.2 b39.1 p40 w133 h349 h351) (by exact om_f03e4fac pre18 b31.2 b31.1 p32 b39.2 b39.1 p40 kd74 h76 p88 p89 w131 w133 h141 h142 h144 h145 h151 h153 h209 h210 p234 p233 b267.1 h281 h282 h349 h351) (hS353.cell ta1 (by decide +kernel)) (RoF.st (ex := xr 54 57) hS353 (by decide +kernel)) (fun f hf => match f, hf with | 0, _ => (fun a ha => by obtain rfl := Option.some.inj (d67.symm.trans ha); have zi : v37.toNatClampNeg = (gQ 2).toNat := congrArg Int.toNat (by exact om_acd7a85a p40); have ze := (Eq.trans ((f355 _ _ (fun q => by have z := ta66; rw [q.1, ta1] at z; exact absurd z (by decide))).trans ((f335 _ _ (fun q => by have z := ta66; rw [q.1, ta72] at z; exact absurd z (by decide))).trans ((f320 _ _ (fun q => by have z := ta66; rw [q.1, ta70] at z; exact absurd z (by decide))).trans (f307 _ _ (fun q => by have z := ta66; rw [q.1, ta68] at z; exact absurd z (by decide)))))) e289); rw [zi] at ze; exact ⟨by rw [ze]; exact om_744a20de pre18, fun j hj => ((f355 _ _ (fun q => by have z := ta66; rw [q.1, ta1] at z; exact absurd z (by decide))).trans ((f335 _ _ (fun q => by have z := ta66; rw [q.1, ta72] at z; exact absurd z (by decide))).trans ((f320 _ _ (fun q => by have z := ta66; rw [q.1, ta70] at z; exact absurd z (by decide))).trans ((f307 _ _ (fun q => by have z := ta66; rw [q.1, ta68] at z; exact absurd z (by decide))).trans ((f290 _ _ (fun q => hj (q.2.trans zi))).trans ((g218.cell ta66 (wm_no (by decide +kernel))).trans ((g157.cell ta66 (wm_no (by decide +kernel))).trans (g80.cell ta66 (wm_no (by decide +kernel))))))))))⟩) | 1, _ => (fun a ha => by obtain rfl := Option.some.inj (d69.symm.trans ha); have zi : v37.toNatClampNeg = (gQ 2).toNat := congrArg Int.toNat (by exact om_acd7a85a p40); have ze := (Eq.trans ((f355 _ _ (fun q => by have z := ta68; rw [q.1, ta1] at z; exact absurd z (by decide))).trans ((f335 _ _ (fun q => by have z := ta68; rw [q.1, ta72] at z; exact absurd z (by decide))).trans (f320 _ _ (fun q => by have z := ta68; rw [q.1, ta70] at z; exact absurd z (by decide))))) e306); rw [zi] at ze; exact ⟨by rw [ze]; exact om_abd3d58c pre18 kd74 h147 h149 p165 p167 h212 h214, fun j hj => ((f355 _ _ (fun q => by have z := ta68; rw [q.1, ta1] at z; exact absurd z (by decide))).trans ((f335 _ _ (fun q => by have z := ta68; rw [q.1, ta72] at z; exact absurd z (by decide))).trans ((f320 _ _ (fun q => by have z := ta68; rw [q.1, ta70] at z; exact absurd z (by decide))).trans ((f307 _ _ (fun q => hj (q.2.trans zi))).trans ((f290 _ _ (fun q => by have z := ta68; rw [q.1, ta66] at z; exact absurd z (by decide))).trans ((g218.cell ta68 (wm_no (by decide +kernel))).trans ((g157.cell ta68 (wm_no (by decide +kernel))).trans (g80.cell ta68 (wm_no (by decide +kernel))))))))))⟩) | 2, _ => (fun a ha => by obtain rfl := Option.some.inj (d71.symm.trans ha); have zi : v37.toNatClampNeg = (gQ 2).toNat := congrArg Int.toNat (by exact om_acd7a85a p40); have ze := (Eq.trans ((f355 _ _ (fun q => by have z := ta70; rw [q.1, ta1] at z; exact absurd z (by decide))).trans (f335 _ _ (fun q => by have z := ta70; rw [q.1, ta72] at z; exact absurd z (by decide)))) e321); rw [zi] at ze; exact ⟨by rw [ze]; exact om_c6630282 pre18 kd74 p165, fun j hj => ((f355 _ _ (fun q => by have z := ta70; rw [q.1, ta1] at z; exact absurd z (by decide))).trans ((f335 _ _ (fun q => by have z := ta70; rw [q.1, ta72] at z; exact absurd z (by decide))).trans ((f320 _ _ (fun q => hj (q.2.trans zi))).trans ((f307 _ _ (fun q => by have z := ta70; rw [q.1, ta68] at z; exact absurd z (by decide))).trans ((f290 _ _ (fun q => by have z := ta70; rw [q.1, ta66] at z; exact absurd z (by decide))).trans ((g218.cell ta70 (wm_no (by decide +kernel))).trans ((g157.cell ta70 (wm_no (by decide +kernel))).trans (g80.cell ta70 (wm_no (by decide +kernel))))))))))⟩) | 3, _ => (fun a ha => by obtain rfl := Option.some.inj (d73.symm.trans ha); have zi : v37.toNatClampNeg = (gQ 2).toNat := congrArg Int.toNat (by exact om_acd7a85a p40); have ze := (Eq.trans (f355 _ _ (fun q => by have z := ta72; rw [q.1, ta1] at z; exact absurd z (by decide))) e336); rw [zi] at ze; exact ⟨by rw [ze]; exact om_c8815e41 pre18 kd74 p226, fun j hj => ((f355 _ _ (fun q => by have z := ta72; rw [q.1, ta1] at z; exact absurd z (by decide))).trans ((f335 _ _ (fun q => hj (q.2.trans zi))).trans ((f320 _ _ (fun q => by have z := ta72; rw [q.1, ta70] at z; exact absurd z (by decide))).trans ((f307 _ _ (fun q => by have z := ta72; rw [q.1, ta68] at z; exact absurd z (by decide))).trans ((f290 _ _ (fun q => by have z := ta72; rw [q.1, ta66] at z; exact absurd z (by decide))).trans ((g218.cell ta72 (wm_no (by decide +kernel))).trans ((g157.cell ta72 (wm_no (by decide +kernel))).trans (g80.cell ta72 (wm_no (by decide +kernel))))))))))⟩) | f + 4, h => absurd h (by exact om_551ec4b1 h))), trivial⟩), trivial⟩
                · skip
                  exfalso; exact om_99cda0b7 p234 p233 b267.1 h281 h282
              · skip
                obtain ⟨v369, c370⟩ : ∃ v, I215 a0 9 = v := ⟨_, rfl⟩
                have b371 := iv15_9 hS223.1 ta0 c370
                rw [c370] at p243
                obtain ⟨v372, c373⟩ : ∃ v, I215 a0 13 = v := ⟨_, rfl⟩
                rw [c373] at p244
                obtain ⟨v374, c375⟩ : ∃ v, I215 a0 14 = v := ⟨_, rfl⟩
                rw [c375] at p245
                replace hF := hF.pos (by exact om_5c733ef2 p242)
                replace hP := hP.pos (by exact om_5c733ef2 p242)
                refine tr_istore dX12_readEvent_86 (by decide) (by decide) ?_
                refine sf_oE88 hE hZ hS223.1 (gB) ta0 (by (try rw [c370]); first | done | with_reducible assumption | omega) ⟨_, d2⟩ rfl rfl rfl rfl rfl ?_
                rintro I376 R377 L378 ⟨g379, p380, p381, p382, rp383, -⟩
                obtain rfl : R0 = R377 := funext fun a => funext fun j => (g379.2.2 a j (wm_no rfl)).symm
                have hS384 := hS223.tr g379 (by decide +kernel) (by decide +kernel)
                have c385 : I376 a1 2 = v37 := (g379.cell ta1 (by decide +kernel)).trans c224
                have c386 : I376 a0 9 = v369 := (g379.cell ta0 (by decide +kernel)).trans c370
                have c387 : I376 a0 13 = v372 := (g379.cell ta0 (by decide +kernel)).trans c373
                have c388 : I376 a0 14 = v374 := (g379.cell ta0 (by decide +kernel)).trans c375
                have hO389 : FrO 14 a1 T I0 I376 := hO225.st g379 (by decide +kernel)
                rw [c386] at p380
                rw [c387] at p381
                rw [c373] at p381
                rw [c388] at p382
                rw [c375] at p382
                have eF := hF.eq
                have eP := hP.eq
                obtain ⟨v390, c391⟩ : ∃ v, I376 a0 10 = v := ⟨_, rfl⟩
                have b392 := iv15_10 hS384.1 ta0 c391
                obtain ⟨v393, c394⟩ : ∃ v, I376 a0 11 = v := ⟨_, rfl⟩
                obtain ⟨y395, c396⟩ : ∃ v, L378 a0 15 = v := ⟨_, rfl⟩
                obtain ⟨v397, c398⟩ : ∃ v, I376 a0 12 = v := ⟨_, rfl⟩
                obtain ⟨v399, c400⟩ : ∃ v, I376 a0 8 = v := ⟨_, rfl⟩
                have b401 := iv15_8 hS384.1 ta0 c400
                exact ⟨rfl, rfl, rfl, rfl, rfl, hS384, (fun b hb => (Option.some.inj (d2.symm.trans hb)) ▸ (((((FrM.rf (R := R0) (b := a1) (T := T)).st g80 (by decide +kernel)).st g157 (by decide +kernel)).st g218 (by decide +kernel)).st g379 (by decide +kernel))), (fun dr hd => (Option.some.inj (d2.symm.trans hd)) ▸ hO389), (Or.inr (⟨(by first | done | with_reducible assumption | exact om_7fac24c5 eF), (by (try rw [c386]); first | done | with_reducible assumption | omega), (by (try rw [c387]); first | done | with_reducible assumption | exact om_3345b898 p244 eF), (by (try rw [c388]); first | done | with_reducible assumption | exact om_2757374c p245 eP), trivial⟩)), trivial⟩
              · skip
                obtain ⟨v402, c403⟩ : ∃ v, I215 a0 9 = v := ⟨_, rfl⟩
                have b404 := iv15_9 hS223.1 ta0 c403
                rw [c403] at p250
                obtain ⟨v405, c406⟩ : ∃ v, I215 a0 13 = v := ⟨_, rfl⟩
                rw [c406] at p251
                obtain ⟨v407, c408⟩ : ∃ v, I215 a0 14 = v := ⟨_, rfl⟩
                rw [c408] at p252
                replace hF := hF.neg (by exact om_04941ac6 p247 p248)
                replace hP := hP.neg (by exact om_04941ac6 p247 p248)
                replace hF := hF.pos (by exact om_73cc8e29 p249)
                replace hP := hP.pos (by exact om_73cc8e29 p249)
                refine tr_istore dX12_readEvent_86 (by decide) (by decide) ?_
                refine sf_oE88 hE hZ hS223.1 (gB) ta0 (by (try rw [c403]); first | done | with_reducible assumption | omega) ⟨_, d2⟩ rfl rfl rfl rfl rfl ?_
                rintro I409 R410 L411 ⟨g412, p413, p414, p415, rp416, -⟩
                obtain rfl : R0 = R410 := funext fun a => funext fun j => (g412.2.2 a j (wm_no rfl)).symm
                have hS417 := hS223.tr g412 (by decide +kernel) (by decide +kernel)
                have c418 : I409 a1 2 = v37 := (g412.cell ta1 (by decide +kernel)).trans c224
                have c419 : I409 a0 9 = v402 := (g412.cell ta0 (by decide +kernel)).trans c403
                have c420 : I409 a0 13 = v405 := (g412.cell ta0 (by decide +kernel)).trans c406
                have c421 : I409 a0 14 = v407 := (g412.cell ta0 (by decide +kernel)).trans c408
                have hO422 : FrO 14 a1 T I0 I409 := hO225.st g412 (by decide +kernel)
                rw [c419] at p413
                rw [c420] at p414
                rw [c406] at p414
                rw [c421] at p415
                rw [c408] at p415
                have eF := hF.eq
                have eP := hP.eq
                obtain ⟨v423, c424⟩ : ∃ v, I409 a0 10 = v := ⟨_, rfl⟩
                have b425 := iv15_10 hS417.1 ta0 c424
                obtain ⟨v426, c427⟩ : ∃ v, I409 a0 11 = v := ⟨_, rfl⟩
                obtain ⟨y428, c429⟩ : ∃ v, L411 a0 15 = v := ⟨_, rfl⟩
                obtain ⟨v430, c431⟩ : ∃ v, I409 a0 12 = v := ⟨_, rfl⟩
                obtain ⟨v432, c433⟩ : ∃ v, I409 a0 8 = v := ⟨_, rfl⟩
                have b434 := iv15_8 hS417.1 ta0 c433
                exact ⟨rfl, rfl, rfl, rfl, rfl, hS417, (fun b hb => (Option.some.inj (d2.symm.trans hb)) ▸ (((((FrM.rf (R := R0) (b := a1) (T := T)).st g80 (by decide +kernel)).st g157 (by decide +kernel)).st g218 (by decide +kernel)).st g412 (by decide +kernel))), (fun dr hd => (Option.some.inj (d2.symm.trans hd)) ▸ hO422), (Or.inr (⟨(by first | done | with_reducible assumption | exact om_7fac24c5 eF), (by (try rw [c419]); first | done | with_reducible assumption | omega), (by (try rw [c420]); first | done | with_reducible assumption | exact om_3345b898 p251 eF), (by (try rw [c421]); first | done | with_reducible assumption | exact om_2757374c p252 eP), trivial⟩)), trivial⟩
              · skip
                obtain ⟨v435, c436⟩ : ∃ v, I215 a0 9 = v := ⟨_, rfl⟩
                have b437 := iv15_9 hS223.1 ta0 c436
                rw [c436] at p258
                obtain ⟨v438, c439⟩ : ∃ v, I215 a0 13 = v := ⟨_, rfl⟩
                rw [c439] at p259
                obtain ⟨v440, c441⟩ : ∃ v, I215 a0 14 = v := ⟨_, rfl⟩
                rw [c441] at p260
                replace hF := hF.neg (by exact om_04941ac6 p254 p255)
                replace hP := hP.neg (by exact om_04941ac6 p254 p255)
                replace hF := hF.neg (by exact om_10ed11b5 p256)
                replace hP := hP.neg (by exact om_10ed11b5 p256)
                replace hF := hF.pos (by exact om_ecc016f6 p32 w131 h151 h153 p165 h212 h214 p257)
                replace hP := hP.pos (by exact om_ecc016f6 p32 w131 h151 h153 p165 h212 h214 p257)
                refine tr_istore dX12_readEvent_86 (by decide) (by decide) ?_
                refine sf_oE88 hE hZ hS223.1 (gB) ta0 (by (try rw [c436]); first | done | with_reducible assumption | omega) ⟨_, d2⟩ rfl rfl rfl rfl rfl ?_
                rintro I442 R443 L444 ⟨g445, p446, p447, p448, rp449, -⟩
                obtain rfl : R0 = R443 := funext fun a => funext fun j => (g445.2.2 a j (wm_no rfl)).symm
                have hS450 := hS223.tr g445 (by decide +kernel) (by decide +kernel)
                have c451 : I442 a1 2 = v37 := (g445.cell ta1 (by decide +kernel)).trans c224
                have c452 : I442 a0 9 = v435 := (g445.cell ta0 (by decide +kernel)).trans c436
                have c453 : I442 a0 13 = v438 := (g445.cell ta0 (by decide +kernel)).trans c439
                have c454 : I442 a0 14 = v440 := (g445.cell ta0 (by decide +kernel)).trans c441
                have hO455 : FrO 14 a1 T I0 I442 := hO225.st g445 (by decide +kernel)
                rw [c452] at p446
                rw [c453] at p447
                rw [c439] at p447
                rw [c454] at p448
                rw [c441] at p448
                have eF := hF.eq
                have eP := hP.eq
                obtain ⟨v456, c457⟩ : ∃ v, I442 a0 10 = v := ⟨_, rfl⟩
                have b458 := iv15_10 hS450.1 ta0 c457
                obtain ⟨v459, c460⟩ : ∃ v, I442 a0 11 = v := ⟨_, rfl⟩
                obtain ⟨y461, c462⟩ : ∃ v, L444 a0 15 = v := ⟨_, rfl⟩
                obtain ⟨v463, c464⟩ : ∃ v, I442 a0 12 = v := ⟨_, rfl⟩
                obtain ⟨v465, c466⟩ : ∃ v, I442 a0 8 = v := ⟨_, rfl⟩
                have b467 := iv15_8 hS450.1 ta0 c466
                exact ⟨rfl, rfl, rfl, rfl, rfl, hS450, (fun b hb => (Option.some.inj (d2.symm.trans hb)) ▸ (((((FrM.rf (R := R0) (b := a1) (T := T)).st g80 (by decide +kernel)).st g157 (by decide +kernel)).st g218 (by decide +kernel)).st g445 (by decide +kernel))), (fun dr hd => (Option.some.inj (d2.symm.trans hd)) ▸ hO455), (Or.inr (⟨(by first | done | with_reducible assumption | exact om_7b84bd42 eF), (by (try rw [c452]); first | done | with_reducible assumption | omega), (by (try rw [c453]); first | done | with_reducible assumption | exact om_46d5da87 p259 eF), (by (try rw [c454]); first | done | with_reducible assumption | exact om_2757374c p260 eP), trivial⟩)), trivial⟩
            · skip
              exfalso; exact om_d657daee pre18 kd74 h209 h210
          · skip
            obtain ⟨v468, c469⟩ : ∃ v, I154 a0 9 = v := ⟨_, rfl⟩
            have b470 := iv15_9 hS162.1 ta0 c469
            rw [c469] at p180
            obtain ⟨v471, c472⟩ : ∃ v, I154 a0 13 = v := ⟨_, rfl⟩
            rw [c472] at p181
            obtain ⟨v473, c474⟩ : ∃ v, I154 a0 14 = v := ⟨_, rfl⟩
            rw [c474] at p182
            replace hF := hF.pos (by exact om_73cc8e29 p179)
            replace hP := hP.pos (by exact om_73cc8e29 p179)
            refine tr_istore_n dX12_readEvent_57 (by decide) (by decide) ?_
            refine sf_oE58 hE hZ hS162.1 (gB) ta0 (by (try rw [c469]); first | done | with_reducible assumption | omega) ⟨_, d2⟩ rfl rfl rfl rfl ?_
            rintro I475 R476 L477 ⟨g478, p479, p480, p481, rp482, -⟩
            obtain rfl : R0 = R476 := funext fun a => funext fun j => (g478.2.2 a j (wm_no rfl)).symm
            have hS483 := hS162.tr g478 (by decide +kernel) (by decide +kernel)
            have c484 : I475 a1 2 = v37 := (g478.cell ta1 (by decide +kernel)).trans c163
            have hO485 : FrO 14 a1 T I0 I475 := hO164.st g478 (by decide +kernel)
            obtain ⟨v486, c487⟩ : ∃ v, I475 a0 9 = v := ⟨_, rfl⟩
            have b488 := iv15_9 hS483.1 ta0 c487
            rw [c487] at p479
            obtain ⟨v489, c490⟩ : ∃ v, I475 a0 13 = v := ⟨_, rfl⟩
            rw [c490] at p480
            rw [c472] at p480
            obtain ⟨v491, c492⟩ : ∃ v, I475 a0 14 = v := ⟨_, rfl⟩
            rw [c492] at p481
            rw [c474] at p481
            have eF := hF.eq
            have eP := hP.eq
            obtain ⟨v493, c494⟩ : ∃ v, I475 a0 10 = v := ⟨_, rfl⟩
            have b495 := iv15_10 hS483.1 ta0 c494
            obtain ⟨v496, c497⟩ : ∃ v, I475 a0 11 = v := ⟨_, rfl⟩
            obtain ⟨y498, c499⟩ : ∃ v, L477 a0 15 = v := ⟨_, rfl⟩
            obtain ⟨v500, c501⟩ : ∃ v, I475 a0 12 = v := ⟨_, rfl⟩
            obtain ⟨v502, c503⟩ : ∃ v, I475 a0 8 = v := ⟨_, rfl⟩
            have b504 := iv15_8 hS483.1 ta0 c503
            exact ⟨rfl, rfl, rfl, rfl, rfl, hS483, (fun b hb => (Option.some.inj (d2.symm.trans hb)) ▸ ((((FrM.rf (R := R0) (b := a1) (T := T)).st g80 (by decide +kernel)).st g157 (by decide +kernel)).st g478 (by decide +kernel))), (fun dr hd => (Option.some.inj (d2.symm.trans hd)) ▸ hO485), (Or.inr (⟨(by first | done | with_reducible assumption | exact om_7fac24c5 eF), (by (try rw [c487]); first | done | with_reducible assumption | omega), (by (try rw [c490]); first | done | with_reducible assumption | exact om_9adad658 p181 p480 eF), (by (try rw [c492]); first | done | with_reducible assumption | exact om_3998a42e p182 p481 eP), trivial⟩)), trivial⟩
          · skip
            obtain ⟨v505, c506⟩ : ∃ v, I154 a0 9 = v := ⟨_, rfl⟩
            have b507 := iv15_9 hS162.1 ta0 c506
            rw [c506] at p186
            obtain ⟨v508, c509⟩ : ∃ v, I154 a0 13 = v := ⟨_, rfl⟩
            rw [c509] at p187
            obtain ⟨v510, c511⟩ : ∃ v, I154 a0 14 = v := ⟨_, rfl⟩
            rw [c511] at p188
            replace hF := hF.neg (by exact om_10ed11b5 p184)
            replace hP := hP.neg (by exact om_10ed11b5 p184)
            replace hF := hF.pos (by exact om_41eb13e5 p32 w131 h149 h151 h153 p185)
            replace hP := hP.pos (by exact om_41eb13e5 p32 w131 h149 h151 h153 p185)
            refine tr_istore_n dX12_readEvent_57 (by decide) (by decide) ?_
            refine sf_oE58 hE hZ hS162.1 (gB) ta0 (by (try rw [c506]); first | done | with_reducible assumption | omega) ⟨_, d2⟩ rfl rfl rfl rfl ?_
            rintro I512 R513 L514 ⟨g515, p516, p517, p518, rp519, -⟩
            obtain rfl : R0 = R513 := funext fun a => funext fun j => (g515.2.2 a j (wm_no rfl)).symm
            have hS520 := hS162.tr g515 (by decide +kernel) (by decide +kernel)
            have c521 : I512 a1 2 = v37 := (g515.cell ta1 (by decide +kernel)).trans c163
            have hO522 : FrO 14 a1 T I0 I512 := hO164.st g515 (by decide +kernel)
            obtain ⟨v523, c524⟩ : ∃ v, I512 a0 9 = v := ⟨_, rfl⟩
            have b525 := iv15_9 hS520.1 ta0 c524
            rw [c524] at p516
            obtain ⟨v526, c527⟩ : ∃ v, I512 a0 13 = v := ⟨_, rfl⟩
            rw [c527] at p517
            rw [c509] at p517
            obtain ⟨v528, c529⟩ : ∃ v, I512 a0 14 = v := ⟨_, rfl⟩
            rw [c529] at p518
            rw [c511] at p518
            have eF := hF.eq
            have eP := hP.eq
            obtain ⟨v530, c531⟩ : ∃ v, I512 a0 10 = v := ⟨_, rfl⟩
            have b532 := iv15_10 hS520.1 ta0 c531
            obtain ⟨v533, c534⟩ : ∃ v, I512 a0 11 = v := ⟨_, rfl⟩
            obtain ⟨y535, c536⟩ : ∃ v, L514 a0 15 = v := ⟨_, rfl⟩
            obtain ⟨v537, c538⟩ : ∃ v, I512 a0 12 = v := ⟨_, rfl⟩
            obtain ⟨v539, c540⟩ : ∃ v, I512 a0 8 = v := ⟨_, rfl⟩
            have b541 := iv15_8 hS520.1 ta0 c540
            exact ⟨rfl, rfl, rfl, rfl, rfl, hS520, (fun b hb => (Option.some.inj (d2.symm.trans hb)) ▸ ((((FrM.rf (R := R0) (b := a1) (T := T)).st g80 (by decide +kernel)).st g157 (by decide +kernel)).st g515 (by decide +kernel))), (fun dr hd => (Option.some.inj (d2.symm.trans hd)) ▸ hO522), (Or.inr (⟨(by first | done | with_reducible assumption | exact om_7b84bd42 eF), (by (try rw [c524]); first | done | with_reducible assumption | omega), (by (try rw [c527]); first | done | with_reducible assumption | exact om_4510ffdb p187 p517 eF), (by (try rw [c529]); first | done | with_reducible assumption | exact om_3998a42e p188 p518 eP), trivial⟩)), trivial⟩
        · skip
          exfalso; exact om_db5fcc13 pre18 kd74 h144 h145
    · skip
      obtain ⟨v542, c543⟩ : ∃ v, I77 a0 9 = v := ⟨_, rfl⟩
      have b544 := iv15_9 hS85.1 ta0 c543
      rw [c543] at p100
      obtain ⟨v545, c546⟩ : ∃ v, I77 a0 13 = v := ⟨_, rfl⟩
      rw [c546] at p101
      obtain ⟨v547, c548⟩ : ∃ v, I77 a0 14 = v := ⟨_, rfl⟩
      rw [c548] at p102
      have p549 := p61
      unfold Q7M at p549
      replace hF := hF.pos (by exact om_75684169 pre18 p40 kd74 h76 p99)
      replace hP := hP.pos (by exact om_75684169 pre18 p40 kd74 h76 p99)
      clear p549
      refine sf_oE13 hE hZ hS85.1 (gB) ta0 (by (try rw [c543]); first | done | with_reducible assumption | omega) ⟨_, d2⟩ rfl rfl ?_
      rintro I550 R551 L552 ⟨g553, p554, p555, p556, rp557, -⟩
      obtain rfl : R0 = R551 := funext fun a => funext fun j => (g553.2.2 a j (wm_no rfl)).symm
      have hS558 := hS85.tr g553 (by decide +kernel) (by decide +kernel)
      have c559 : I550 a1 2 = v37 := (g553.cell ta1 (by decide +kernel)).trans c86
      have hO560 : FrO 14 a1 T I0 I550 := hO87.st g553 (by decide +kernel)
      obtain ⟨v561, c562⟩ : ∃ v, I550 a0 9 = v := ⟨_, rfl⟩
      have b563 := iv15_9 hS558.1 ta0 c562
      rw [c562] at p554
      obtain ⟨v564, c565⟩ : ∃ v, I550 a0 13 = v := ⟨_, rfl⟩
      rw [c565] at p555
      rw [c546] at p555
      obtain ⟨v566, c567⟩ : ∃ v, I550 a0 14 = v := ⟨_, rfl⟩
      rw [c567] at p556
      rw [c548] at p556
      have eF := hF.eq
      have eP := hP.eq
      obtain ⟨v568, c569⟩ : ∃ v, I550 a0 10 = v := ⟨_, rfl⟩
      have b570 := iv15_10 hS558.1 ta0 c569
      obtain ⟨v571, c572⟩ : ∃ v, I550 a0 11 = v := ⟨_, rfl⟩
      obtain ⟨y573, c574⟩ : ∃ v, L552 a0 15 = v := ⟨_, rfl⟩
      obtain ⟨v575, c576⟩ : ∃ v, I550 a0 12 = v := ⟨_, rfl⟩
      obtain ⟨v577, c578⟩ : ∃ v, I550 a0 8 = v := ⟨_, rfl⟩
      have b579 := iv15_8 hS558.1 ta0 c578
      exact ⟨rfl, rfl, rfl, rfl, rfl, hS558, (fun b hb => (Option.some.inj (d2.symm.trans hb)) ▸ (((FrM.rf (R := R0) (b := a1) (T := T)).st g80 (by decide +kernel)).st g553 (by decide +kernel))), (fun dr hd => (Option.some.inj (d2.symm.trans hd)) ▸ hO560), (Or.inr (⟨(by first | done | with_reducible assumption | exact om_64c62efe eF), (by (try rw [c562]); first | done | with_reducible assumption | omega), (by (try rw [c565]); first | done | with_reducible assumption | exact om_7fd518bd p101 p555 eF), (by (try rw [c567]); first | done | with_reducible assumption | exact om_8e6888af p11 p102 p556 eP), trivial⟩)), trivial⟩
    · skip
      obtain ⟨v580, c581⟩ : ∃ v, I77 a0 9 = v := ⟨_, rfl⟩
      have b582 := iv15_9 hS85.1 ta0 c581
      rw [c581] at p105
      obtain ⟨v583, c584⟩ : ∃ v, I77 a0 13 = v := ⟨_, rfl⟩
      rw [c584] at p106
      obtain ⟨v585, c586⟩ : ∃ v, I77 a0 14 = v := ⟨_, rfl⟩
      rw [c586] at p107
      have p587 := p61
      unfold Q7M at p587
      replace hF := hF.neg (by exact om_45252056 pre18 b39.2 b39.1 p40 kd74 h76 p103 p104 p587)
      replace hP := hP.neg (by exact om_45252056 pre18 b39.2 b39.1 p40 kd74 h76 p103 p104 p587)
      replace hF := hF.pos (by exact om_de2d0c99 pre18 kd74 p104 p587)
      replace hP := hP.pos (by exact om_de2d0c99 pre18 kd74 p104 p587)
      clear p587
      refine sf_oE13 hE hZ hS85.1 (gB) ta0 (by (try rw [c581]); first | done | with_reducible assumption | omega) ⟨_, d2⟩ rfl rfl ?_
      rintro I588 R589 L590 ⟨g591, p592, p593, p594, rp595, -⟩
      obtain rfl : R0 = R589 := funext fun a => funext fun j => (g591.2.2 a j (wm_no rfl)).symm
      have hS596 := hS85.tr g591 (by decide +kernel) (by decide +kernel)
      have c597 : I588 a1 2 = v37 := (g591.cell ta1 (by decide +kernel)).trans c86
      have hO598 : FrO 14 a1 T I0 I588 := hO87.st g591 (by decide +kernel)
      obtain ⟨v599, c600⟩ : ∃ v, I588 a0 9 = v := ⟨_, rfl⟩
      have b601 := iv15_9 hS596.1 ta0 c600
      rw [c600] at p592
      obtain ⟨v602, c603⟩ : ∃ v, I588 a0 13 = v := ⟨_, rfl⟩
      rw [c603] at p593
      rw [c584] at p593
      obtain ⟨v604, c605⟩ : ∃ v, I588 a0 14 = v := ⟨_, rfl⟩
      rw [c605] at p594
      rw [c586] at p594
      have eF := hF.eq
      have eP := hP.eq
      obtain ⟨v606, c607⟩ : ∃ v, I588 a0 10 = v := ⟨_, rfl⟩
      have b608 := iv15_10 hS596.1 ta0 c607
      obtain ⟨v609, c610⟩ : ∃ v, I588 a0 11 = v := ⟨_, rfl⟩
      obtain ⟨y611, c612⟩ : ∃ v, L590 a0 15 = v := ⟨_, rfl⟩
      obtain ⟨v613, c614⟩ : ∃ v, I588 a0 12 = v := ⟨_, rfl⟩
      obtain ⟨v615, c616⟩ : ∃ v, I588 a0 8 = v := ⟨_, rfl⟩
      have b617 := iv15_8 hS596.1 ta0 c616
      exact ⟨rfl, rfl, rfl, rfl, rfl, hS596, (fun b hb => (Option.some.inj (d2.symm.trans hb)) ▸ (((FrM.rf (R := R0) (b := a1) (T := T)).st g80 (by decide +kernel)).st g591 (by decide +kernel))), (fun dr hd => (Option.some.inj (d2.symm.trans hd)) ▸ hO598), (Or.inr (⟨(by first | done | with_reducible assumption | exact om_3a8e1f7c eF), (by (try rw [c600]); first | done | with_reducible assumption | omega), (by (try rw [c603]); first | done | with_reducible assumption | exact om_1428d4dd p106 p593 eF), (by (try rw [c605]); first | done | with_reducible assumption | exact om_8e6888af p11 p107 p594 eP), trivial⟩)), trivial⟩
  · skip
    refine tr_aload_n dX12_readEvent_0 rfl ?_
    refine tr_aload_n dX12_readEvent_1 rfl ?_
    refine tr_getR dX12_readEvent_2 fl12_188 (kR15 hS0.1 ta0) d2 ?_
    refine q_getI dX12_readEvent_5 fl12_265 (kR14 hS0.1 ta1) c38 ?_
    refine q_bipush dX12_readEvent_8 (by decide +kernel) ?_
    intro v618 h619
    refine q_callVv hE (M' := mX12_begins) (as := [_, _]) dX12_readEvent_10 lk12_268 inX12_begins seX12_begins myX12_begins (by decide) ⟨by decide, by decide⟩ rfl (kR15 hS0.1 ta0) (Nat.le_of_ble_eq_true rfl) rfl rfl (by decide) (by decide) (fk_X12_begins hS0.1 (gB) (gs) (gQ) ta0 (TxA.kp hT hS0 ta0 rfl rfl rfl (by decide +kernel) (by decide +kernel)) (by (try rw [c4]); first | done | with_reducible assumption | omega) (by (try rw [c4]); first | done | with_reducible assumption | omega) (by (try rw [c9]); first | done | with_reducible assumption | omega) (by (try rw [c13]); first | done | with_reducible assumption | omega) (by (try rw [c16]); first | done | assumption) (by (try rw [c19]); first | done | assumption) (by (try rw [c22]); first | done | assumption) (by (try rw [c26]); first | done | with_reducible assumption | omega) (fun q0 z0 => by obtain rfl := Option.some.inj ((d2).symm.trans z0); (try rw [c30]); first | done | with_reducible assumption | omega) (by first | done | with_reducible assumption | omega) ⟨_, d2⟩) ?_
    rintro cn' K' N' I620 R621 L622 ⟨rfl, rfl, rfl, rfl, g623, dj626, -⟩
    have hM627 : NmM I620 R0 L0 a1 gQ := NmM.kpS hM0 g623 hS0.1 ta1 (by decide +kernel) (by decide +kernel)
    have hS628 := hS0.tr g623 (by decide +kernel) (by decide +kernel)
    have c629 : I620 a1 2 = v37 := (g623.cell ta1 (by decide +kernel)).trans c38
    have hO630 : FrO 14 a1 T I0 I620 := hO0.st g623 (by decide +kernel)
    rcases dj626 with ⟨p631, p632, p633, p634, p635, p636, p637, p638, p639, p640, gl641, -⟩ | ⟨p642, p643, p644, p645, -⟩ | ⟨p646, p647, p648, p649, p650, -⟩
    · skip
      have hL651 := hL0.tr gl641 (by decide +kernel)
      have hM652 : NmM I620 R0 L622 a1 gQ := NmM.kpL hM627 gl641 hS628.1 ta1 (by decide +kernel)
      obtain ⟨v653, c654⟩ : ∃ v, I620 a0 13 = v := ⟨_, rfl⟩
      rw [c654] at p633
      rw [c65] at p633
      obtain ⟨v655, c656⟩ : ∃ v, I620 a0 9 = v := ⟨_, rfl⟩
      have b657 := iv15_9 hS628.1 ta0 c656
      rw [c656] at p634
      rw [c656] at p635
      obtain ⟨v658, c659⟩ : ∃ v, I620 a0 10 = v := ⟨_, rfl⟩
      have b660 := iv15_10 hS628.1 ta0 c659
      rw [c659] at p636
      obtain ⟨v661, c662⟩ : ∃ v, I620 a0 11 = v := ⟨_, rfl⟩
      rw [c662] at p637
      obtain ⟨y663, c664⟩ : ∃ v, L622 a0 15 = v := ⟨_, rfl⟩
      rw [c664] at p638
      obtain ⟨v665, c666⟩ : ∃ v, I620 a0 12 = v := ⟨_, rfl⟩
      rw [c666] at p639
      obtain ⟨v667, c668⟩ : ∃ v, I620 a0 8 = v := ⟨_, rfl⟩
      have b669 := iv15_8 hS628.1 ta0 c668
      rw [c668] at p640
      have p670 := p61
      unfold Q7M at p670
      replace hF := hF.neg (by exact om_b9a27715 pre18 b31.2 b31.1 p32 b39.2 b39.1 p40 kd74 h619 p631 p632 p670)
      replace hP := hP.neg (by exact om_b9a27715 pre18 b31.2 b31.1 p32 b39.2 b39.1 p40 kd74 h619 p631 p632 p670)
      replace hF := hF.neg (by exact om_e0152f84 pre18 kd74 p632 p670)
      replace hP := hP.neg (by exact om_e0152f84 pre18 kd74 p632 p670)
      clear p670
      obtain ⟨w671, w672, w673, w674, w675, w676, w677, w678, w679, w680, w681, w682⟩ := lnl_e (B := gB) (Q := gQ) (s := gs) (by exact om_feb572f0 pre18 kd74) (by exact om_80600499 pre18 kd74)
      replace hF := hF.to w671 (evF_c0 (B := gB) (Q := gQ) (k := srt gB gs) (s := (tkN gB gs)) (by exact om_feb572f0 pre18 kd74) (by exact om_8bca188d pre18 kd74))
      replace hP := hP.to w672 (evP_c0 (B := gB) (Q := gQ) (k := srt gB gs) (s := (tkN gB gs)) (by exact om_feb572f0 pre18 kd74) (by exact om_8bca188d pre18 kd74))
      refine tr_iload_n dX12_readEvent_13 rfl ?_
      refine q_iconst dX12_readEvent_14 (by decide) ?_
      intro v683 h684
      refine q_icmp_eq 23 dX12_readEvent_15 (by decide) (fun h685 => ?_) (fun h685 => ?_)
      · skip
        exfalso; exact om_83b521cc pre18 kd74 h684 h685
      · skip
        refine tr_iload_n dX12_readEvent_18 rfl ?_
        refine q_iconst dX12_readEvent_19 (by decide) ?_
        intro v686 h687
        refine q_icmp_ne 40 dX12_readEvent_20 (by decide) (fun h688 => ?_) (fun h688 => ?_)
        · skip
          refine q_bipush dX12_readEvent_40 (by decide +kernel) ?_
          intro v689 h690
          refine tr_istore_n dX12_readEvent_42 (by decide) (by decide) ?_
          refine tr_aload_n dX12_readEvent_43 rfl ?_
          refine q_iconst dX12_readEvent_44 (by decide) ?_
          intro v691 h692
          refine tr_aload_n dX12_readEvent_45 rfl ?_
          refine tr_getR dX12_readEvent_46 fl12_188 (kR15 hS628.1 ta0) d2 ?_
          refine q_getI dX12_readEvent_49 fl12_192 (kR14 hS628.1 ta1) ((hS628.cell ta1 (by decide +kernel)).trans c30) ?_
          refine q_iconst dX12_readEvent_52 (by decide) ?_
          intro v693 h694
          refine q_isubE dX12_readEvent_53 (by intro j1 j2 j3 j4; exact om_6479810f b31.2 b31.1 p32 w674 h694) ?_
          intro v695 h696
          refine q_callVi hE (M' := mX12_readWhole) (as := [_, _]) dX12_readEvent_54 lk12_161 inX12_readWhole seX12_readWhole myX12_readWhole (by decide) ⟨by decide, by decide⟩ rfl (kR15 hS628.1 ta0) (Nat.le_of_ble_eq_true rfl) rfl rfl (by decide) (by decide) (fk_X12_readWhole hS628.1 (gB) ((tkN gB gs)) ta0 (TxA.kp hT hS628 ta0 rfl rfl rfl (by decide +kernel) (by decide +kernel)) (by (try rw [c656]); first | done | with_reducible assumption | omega) (by (try rw [c656]); first | done | with_reducible assumption | omega) (by (try rw [c659]); first | done | with_reducible assumption | omega) (by (try rw [c662]); first | done | with_reducible assumption | omega) (by (try rw [c664]); first | done | assumption) (by (try rw [c666]); first | done | assumption) (by (try rw [c668]); first | done | assumption) (by (try rw [((hS628.cell ta0 (by decide +kernel)).trans c26)]); first | done | with_reducible assumption | omega)) ?_
          rintro v702 cn' K' N' I697 R698 L699 ⟨rfl, rfl, rfl, rfl, g700, dj703, -⟩
          have hM704 : NmM I697 R0 L622 a1 gQ := NmM.kpS hM652 g700 hS628.1 ta1 (by decide +kernel) (by decide +kernel)
          have hS705 := hS628.tr g700 (by decide +kernel) (by decide +kernel)
          have c706 : I697 a1 2 = v37 := (g700.cell ta1 (by decide +kernel)).trans c629
          have hO707 : FrO 14 a1 T I0 I697 := hO630.st g700 (by decide +kernel)
          rcases dj703 with ⟨p708, p709, p710, p711, p712, p713, p714, p715, p716, p717, p718, p719, gl720, -⟩ | ⟨p721, p722, p723, p724, p725, -⟩ | ⟨p726, p727, p728, p729, p730, p731, -⟩
          · skip
            have hL732 := hL651.tr gl720 (by decide +kernel)
            have hM733 : NmM I697 R0 L699 a1 gQ := NmM.kpL hM704 gl720 hS705.1 ta1 (by decide +kernel)
            obtain ⟨v734, c735⟩ : ∃ v, I697 a0 13 = v := ⟨_, rfl⟩
            rw [c735] at p712
            rw [c654] at p712
            obtain ⟨v736, c737⟩ : ∃ v, I697 a0 9 = v := ⟨_, rfl⟩
            have b738 := iv15_9 hS705.1 ta0 c737
            rw [c737] at p713
            rw [c737] at p714
            obtain ⟨v739, c740⟩ : ∃ v, I697 a0 10 = v := ⟨_, rfl⟩
            have b741 := iv15_10 hS705.1 ta0 c740
            rw [c740] at p715
            obtain ⟨v742, c743⟩ : ∃ v, I697 a0 11 = v := ⟨_, rfl⟩
            rw [c743] at p716
            obtain ⟨y744, c745⟩ : ∃ v, L699 a0 15 = v := ⟨_, rfl⟩
            rw [c745] at p717
            obtain ⟨v746, c747⟩ : ∃ v, I697 a0 12 = v := ⟨_, rfl⟩
            rw [c747] at p718
            obtain ⟨v748, c749⟩ : ∃ v, I697 a0 8 = v := ⟨_, rfl⟩
            have b750 := iv15_8 hS705.1 ta0 c749
            rw [c749] at p719
            replace hF := hF.neg (by exact om_10ed11b5 p709)
            replace hP := hP.neg (by exact om_10ed11b5 p709)
            replace hF := hF.neg (by exact om_4062d996 p32 w674 h692 h694 h696 p710 p711)
            replace hP := hP.neg (by exact om_4062d996 p32 w674 h692 h694 h696 p710 p711)
            refine tr_istore_n dX12_readEvent_57 (by decide) (by decide) ?_
            refine tr_iload_n dX12_readEvent_58 rfl ?_
            refine q_iconst dX12_readEvent_59 (by decide) ?_
            intro v751 h752
            refine q_icmp_ne 69 dX12_readEvent_60 (by decide) (fun h753 => ?_) (fun h753 => ?_)
            · skip
              refine tr_aload_n dX12_readEvent_69 rfl ?_
              refine tr_ldcwS dX12_readEvent_70 ld12_272 ?_
              refine tr_iload_n dX12_readEvent_73 rfl ?_
              refine q_iconst dX12_readEvent_74 (by decide) ?_
              intro v754 h755
              refine q_iaddE dX12_readEvent_75 (by intro j1 j2 j3 j4; exact om_5e7b6990 b31.2 b31.1 p32 w674 h692 h694 h696 p708 p710 p711 h755 j2) ?_
              intro v756 h757
              refine tr_aload_n dX12_readEvent_76 rfl ?_
              refine tr_getR dX12_readEvent_77 fl12_188 (kR15 hS705.1 ta0) d2 ?_
              refine q_getI dX12_readEvent_80 fl12_192 (kR14 hS705.1 ta1) ((hS705.cell ta1 (by decide +kernel)).trans c30) ?_
              refine q_callVi hE (M' := mX12_readPart) (as := [_, _, _]) dX12_readEvent_83 lk12_249 inX12_readPart seX12_readPart myX12_readPart (by decide) ⟨by decide, by decide⟩ rfl (kR15 hS705.1 ta0) (Nat.le_of_ble_eq_true rfl) rfl rfl (by decide) (by decide) (fk_X12_readPart hS705.1 (gB) ((tkN gB (tkN gB gs))) ta0 (by decide) (TxA.kp hT hS705 ta0 rfl rfl rfl (by decide +kernel) (by decide +kernel)) (by (try rw [c737]); first | done | with_reducible assumption | omega) (by (try rw [c737]); first | done | with_reducible assumption | omega) (by (try rw [c740]); first | done | with_reducible assumption | omega) (by (try rw [c743]); first | done | with_reducible assumption | omega) (by (try rw [c745]); first | done | assumption) (by (try rw [c747]); first | done | assumption) (by (try rw [c749]); first | done | assumption) (by (try rw [((hS705.cell ta0 (by decide +kernel)).trans c26)]); first | done | with_reducible assumption | omega)) ?_
              rintro v763 cn' K' N' I758 R759 L760 ⟨rfl, rfl, rfl, rfl, g761, dj764, -⟩
              (try rw [pk_25] at dj764)
              have hM765 : NmM I758 R0 L699 a1 gQ := NmM.kpS hM733 g761 hS705.1 ta1 (by decide +kernel) (by decide +kernel)
              have hS766 := hS705.tr g761 (by decide +kernel) (by decide +kernel)
              have c767 : I758 a1 2 = v37 := (g761.cell ta1 (by decide +kernel)).trans c706
              have hO768 : FrO 14 a1 T I0 I758 := hO707.st g761 (by decide +kernel)
              rcases dj764 with ⟨p769, p770, p771, p772, p773, p774, p775, p776, p777, p778, p779, p780, p781, p782, gl783, -⟩ | ⟨p784, p785, p786, p787, p788, -⟩ | ⟨p789, p790, p791, p792, p793, p794, p795, -⟩ | ⟨p796, p797, p798, p799, p800, p801, p802, p803, -⟩
              · skip
                have hL804 := hL732.tr gl783 (by decide +kernel)
                have hM805 : NmM I758 R0 L760 a1 gQ := NmM.kpL hM765 gl783 hS766.1 ta1 (by decide +kernel)
                obtain ⟨v806, c807⟩ : ∃ v, I758 a0 13 = v := ⟨_, rfl⟩
                rw [c807] at p775
                rw [c735] at p775
                obtain ⟨v808, c809⟩ : ∃ v, I758 a0 9 = v := ⟨_, rfl⟩
                have b810 := iv15_9 hS766.1 ta0 c809
                rw [c809] at p776
                rw [c809] at p777
                obtain ⟨v811, c812⟩ : ∃ v, I758 a0 10 = v := ⟨_, rfl⟩
                have b813 := iv15_10 hS766.1 ta0 c812
                rw [c812] at p778
                obtain ⟨v814, c815⟩ : ∃ v, I758 a0 11 = v := ⟨_, rfl⟩
                rw [c815] at p779
                obtain ⟨y816, c817⟩ : ∃ v, L760 a0 15 = v := ⟨_, rfl⟩
                rw [c817] at p780
                obtain ⟨v818, c819⟩ : ∃ v, I758 a0 12 = v := ⟨_, rfl⟩
                rw [c819] at p781
                obtain ⟨v820, c821⟩ : ∃ v, I758 a0 8 = v := ⟨_, rfl⟩
                have b822 := iv15_8 hS766.1 ta0 c821
                rw [c821] at p782
                replace hF := hF.neg (by exact om_04941ac6 p770 p771)
                replace hP := hP.neg (by exact om_04941ac6 p770 p771)
                replace hF := hF.neg (by exact om_10ed11b5 p772)
                replace hP := hP.neg (by exact om_10ed11b5 p772)
                replace hF := hF.neg (by exact om_11a1fbca p32 w674 h694 h696 p708 h755 h757 p773 p774)
                replace hP := hP.neg (by exact om_11a1fbca p32 w674 h694 h696 p708 h755 h757 p773 p774)
                refine tr_istore dX12_readEvent_86 (by decide) (by decide) ?_
                refine tr_aload_n dX12_readEvent_88 rfl ?_
                refine q_getI dX12_readEvent_89 fl12_99 (kR15 hS766.1 ta0) c809 ?_
                refine q_iconst dX12_readEvent_92 (by decide) ?_
                intro v823 h824
                refine q_icmp_ne 97 dX12_readEvent_93 (by decide) (fun h825 => ?_) (fun h825 => ?_)
                · skip
                  refine tr_aload_n dX12_readEvent_97 rfl ?_
                  refine tr_getR dX12_readEvent_98 fl12_188 (kR15 hS766.1 ta0) d2 ?_
                  refine q_getI dX12_readEvent_101 fl12_265 (kR14 hS766.1 ta1) c767 ?_
                  refine tr_istore dX12_readEvent_104 (by decide) (by decide) ?_
                  refine tr_aload_n dX12_readEvent_106 rfl ?_
                  refine tr_getR dX12_readEvent_107 fl12_188 (kR15 hS766.1 ta0) d2 ?_
                  refine tr_getR dX12_readEvent_110 fl12_274 (kR14 hS766.1 ta1) d67 ?_
                  refine tr_iload dX12_readEvent_113 rfl ?_
                  refine tr_iload_n dX12_readEvent_115 rfl ?_
                  refine q_iastX dX12_readEvent_116 (kR54 hS766.1 ta66) (ti_in (nR54 hS766.1 ta66) (by exact om_b14f9e1e b39.2 b39.1 p40 w676) (by exact om_b59d1910 pre18 b31.2 b31.1 p32 b39.2 b39.1 p40 kd74 h619 p631 p632 w674 w676 h684 h685 h687 h688 h694 h696 h752 h753 p777 p776 b810.1 h824 h825)) hS766 ta66 (by rfl) (hS766.1.putK (m := a1) ta1 d67 (by rw [c767]; exact Int.le_of_eq (ti_nat (by exact om_b14f9e1e b39.2 b39.1 p40 w676)).symm)) ?_
                  intro I830 hS831 e832 f833
                  have c834 : I830 a1 2 = v37 := (f833 _ _ (fun q => by have z := ta1; rw [q.1, ta66] at z; exact absurd z (by decide))).trans c767
                  have c835 : I830 a0 13 = v806 := (f833 _ _ (fun q => by have z := ta0; rw [q.1, ta66] at z; exact absurd z (by decide))).trans c807
                  have c836 : I830 a0 9 = v808 := (f833 _ _ (fun q => by have z := ta0; rw [q.1, ta66] at z; exact absurd z (by decide))).trans c809
                  have c837 : I830 a0 10 = v811 := (f833 _ _ (fun q => by have z := ta0; rw [q.1, ta66] at z; exact absurd z (by decide))).trans c812
                  have c838 : I830 a0 11 = v814 := (f833 _ _ (fun q => by have z := ta0; rw [q.1, ta66] at z; exact absurd z (by decide))).trans c815
                  have c839 : I830 a0 12 = v818 := (f833 _ _ (fun q => by have z := ta0; rw [q.1, ta66] at z; exact absurd z (by decide))).trans c819
                  have c840 : I830 a0 8 = v820 := (f833 _ _ (fun q => by have z := ta0; rw [q.1, ta66] at z; exact absurd z (by decide))).trans c821
                  have hO841 : FrO 14 a1 T I0 I830 := hO768.put f833 ta66 (Or.inl (by decide))
                  have hM842 : NmM I830 R0 L760 a1 gQ := NmM.kp1 hM805 f833 ta66 rfl rfl hS766.1 ta1
                  refine tr_aload_n dX12_readEvent_117 rfl ?_
                  refine tr_getR dX12_readEvent_118 fl12_188 (kR15 hS831.1 ta0) d2 ?_
                  refine tr_getR dX12_readEvent_121 fl12_277 (kR14 hS831.1 ta1) d69 ?_
                  refine tr_iload dX12_readEvent_124 rfl ?_
                  refine tr_iload_n dX12_readEvent_126 rfl ?_
                  refine q_iastX dX12_readEvent_127 (kR55 hS831.1 ta68) (ti_in (nR55 hS831.1 ta68) (by exact om_b14f9e1e b39.2 b39.1 p40 w676) (by exact om_b59d1910 pre18 b31.2 b31.1 p32 b39.2 b39.1 p40 kd74 h619 p631 p632 w674 w676 h684 h685 h687 h688 h694 h696 h752 h753 p777 p776 b810.1 h824 h825)) hS831 ta68 (by rfl) (hS831.1.putH (m := a1) ta1 d69 (by rw [c834]; exact Int.le_of_eq (ti_nat (by exact om_b14f9e1e b39.2 b39.1 p40 w676)).symm) (by exact om_9bdeced0 h690)) ?_
                  intro I847 hS848 e849 f850
                  have c851 : I847 a1 2 = v37 := (f850 _ _ (fun q => by have z := ta1; rw [q.1, ta68] at z; exact absurd z (by decide))).trans c834
                  have c852 : I847 a0 13 = v806 := (f850 _ _ (fun q => by have z := ta0; rw [q.1, ta68] at z; exact absurd z (by decide))).trans c835
                  have c853 : I847 a0 9 = v808 := (f850 _ _ (fun q => by have z := ta0; rw [q.1, ta68] at z; exact absurd z (by decide))).trans c836
                  have c854 : I847 a0 10 = v811 := (f850 _ _ (fun q => by have z := ta0; rw [q.1, ta68] at z; exact absurd z (by decide))).trans c837
                  have c855 : I847 a0 11 = v814 := (f850 _ _ (fun q => by have z := ta0; rw [q.1, ta68] at z; exact absurd z (by decide))).trans c838
                  have c856 : I847 a0 12 = v818 := (f850 _ _ (fun q => by have z := ta0; rw [q.1, ta68] at z; exact absurd z (by decide))).trans c839
                  have c857 : I847 a0 8 = v820 := (f850 _ _ (fun q => by have z := ta0; rw [q.1, ta68] at z; exact absurd z (by decide))).trans c840
                  have c858 : I847 a66 v37.toNatClampNeg = x1 := (f850 _ _ (fun q => by have z := ta66; rw [q.1, ta68] at z; exact absurd z (by decide))).trans e832
                  have hO859 : FrO 14 a1 T I0 I847 := hO841.put f850 ta68 (Or.inl (by decide))
                  have hM860 : NmM I847 R0 L760 a1 gQ := NmM.kp1 hM842 f850 ta68 rfl rfl hS831.1 ta1
                  refine tr_aload_n dX12_readEvent_128 rfl ?_
                  refine tr_getR dX12_readEvent_129 fl12_188 (kR15 hS848.1 ta0) d2 ?_
                  refine tr_getR dX12_readEvent_132 fl12_280 (kR14 hS848.1 ta1) d71 ?_
                  refine tr_iload dX12_readEvent_135 rfl ?_
                  refine tr_iload_n dX12_readEvent_137 rfl ?_
                  refine q_iast dX12_readEvent_138 (kR56 hS848.1 ta70) (ti_in (nR56 hS848.1 ta70) (by exact om_b14f9e1e b39.2 b39.1 p40 w676) (by exact om_b59d1910 pre18 b31.2 b31.1 p32 b39.2 b39.1 p40 kd74 h619 p631 p632 w674 w676 h684 h685 h687 h688 h694 h696 h752 h753 p777 p776 b810.1 h824 h825)) hS848 ta70 (by show (0 : Int) ≤ v702.toInt ∧ v702.toInt ≤ (240 : Int); exact om_0f0d8164 b31.2 b31.1 p32 w674 h692 h694 h696 p708 p710 p711 h755 h757) rfl (by rfl) ?_
                  intro I861 hS862 e864 f863
                  have c865 : I861 a1 2 = v37 := (f863 _ _ (fun q => by have z := ta1; rw [q.1, ta70] at z; exact absurd z (by decide))).trans c851
                  have c866 : I861 a0 13 = v806 := (f863 _ _ (fun q => by have z := ta0; rw [q.1, ta70] at z; exact absurd z (by decide))).trans c852
                  have c867 : I861 a0 9 = v808 := (f863 _ _ (fun q => by have z := ta0; rw [q.1, ta70] at z; exact absurd z (by decide))).trans c853
                  have c868 : I861 a0 10 = v811 := (f863 _ _ (fun q => by have z := ta0; rw [q.1, ta70] at z; exact absurd z (by decide))).trans c854
                  have c869 : I861 a0 11 = v814 := (f863 _ _ (fun q => by have z := ta0; rw [q.1, ta70] at z; exact absurd z (by decide))).trans c855
                  have c870 : I861 a0 12 = v818 := (f863 _ _ (fun q => by have z := ta0; rw [q.1, ta70] at z; exact absurd z (by decide))).trans c856
                  have c871 : I861 a0 8 = v820 := (f863 _ _ (fun q => by have z := ta0; rw [q.1, ta70] at z; exact absurd z (by decide))).trans c857
                  have c872 : I861 a66 v37.toNatClampNeg = x1 := (f863 _ _ (fun q => by have z := ta66; rw [q.1, ta70] at z; exact absurd z (by decide))).trans c858
                  have c873 : I861 a68 v37.toNatClampNeg = v689 := (f863 _ _ (fun q => by have z := ta68; rw [q.1, ta70] at z; exact absurd z (by decide))).trans e849
                  have hO874 : FrO 14 a1 T I0 I861 := hO859.put f863 ta70 (Or.inl (by decide))
                  have hM875 : NmM I861 R0 L760 a1 gQ := NmM.kp1 hM860 f863 ta70 rfl rfl hS848.1 ta1
                  refine tr_aload_n dX12_readEvent_139 rfl ?_
                  refine tr_getR dX12_readEvent_140 fl12_188 (kR15 hS862.1 ta0) d2 ?_
                  refine tr_getR dX12_readEvent_143 fl12_283 (kR14 hS862.1 ta1) d73 ?_
                  refine tr_iload dX12_readEvent_146 rfl ?_
                  refine tr_iload dX12_readEvent_148 rfl ?_
                  refine q_iast dX12_readEvent_150 (kR57 hS862.1 ta72) (ti_in (nR57 hS862.1 ta72) (by exact om_b14f9e1e b39.2 b39.1 p40 w676) (by exact om_b59d1910 pre18 b31.2 b31.1 p32 b39.2 b39.1 p40 kd74 h619 p631 p632 w674 w676 h684 h685 h687 h688 h694 h696 h752 h753 p777 p776 b810.1 h824 h825)) hS862 ta72 (by show (0 : Int) ≤ v763.toInt ∧ v763.toInt ≤ (240 : Int); exact om_6c1edee8 b31.2 b31.1 p32 w674 h692 h694 h696 p708 p710 h755 h757 p769 p773 p774) rfl (by rfl) ?_
                  intro I876 hS877 e879 f878
                  have c880 : I876 a1 2 = v37 := (f878 _ _ (fun q => by have z := ta1; rw [q.1, ta72] at z; exact absurd z (by decide))).trans c865
                  have c881 : I876 a0 13 = v806 := (f878 _ _ (fun q => by have z := ta0; rw [q.1, ta72] at z; exact absurd z (by decide))).trans c866
                  have c882 : I876 a0 9 = v808 := (f878 _ _ (fun q => by have z := ta0; rw [q.1, ta72] at z; exact absurd z (by decide))).trans c867
                  have c883 : I876 a0 10 = v811 := (f878 _ _ (fun q => by have z := ta0; rw [q.1, ta72] at z; exact absurd z (by decide))).trans c868
                  have c884 : I876 a0 11 = v814 := (f878 _ _ (fun q => by have z := ta0; rw [q.1, ta72] at z; exact absurd z (by decide))).trans c869
                  have c885 : I876 a0 12 = v818 := (f878 _ _ (fun q => by have z := ta0; rw [q.1, ta72] at z; exact absurd z (by decide))).trans c870
                  have c886 : I876 a0 8 = v820 := (f878 _ _ (fun q => by have z := ta0; rw [q.1, ta72] at z; exact absurd z (by decide))).trans c871
                  have c887 : I876 a66 v37.toNatClampNeg = x1 := (f878 _ _ (fun q => by have z := ta66; rw [q.1, ta72] at z; exact absurd z (by decide))).trans c872
                  have c888 : I876 a68 v37.toNatClampNeg = v689 := (f878 _ _ (fun q => by have z := ta68; rw [q.1, ta72] at z; exact absurd z (by decide))).trans c873
                  have hO889 : FrO 14 a1 T I0 I876 := hO874.put f878 ta72 (Or.inl (by decide))
                  have hM890 : NmM I876 R0 L760 a1 gQ := NmM.kp1 hM875 f878 ta72 rfl rfl hS862.1 ta1
                  refine tr_aload_n dX12_readEvent_151 rfl ?_
                  refine tr_getR dX12_readEvent_152 fl12_188 (kR15 hS877.1 ta0) d2 ?_
                  refine tr_dup dX12_readEvent_155 rfl ?_
                  refine q_getI dX12_readEvent_156 fl12_265 (kR14 hS877.1 ta1) c880 ?_
                  refine q_iconst dX12_readEvent_159 (by decide) ?_
                  intro v891 h892
                  refine q_iaddE dX12_readEvent_160 (by intro j1 j2 j3 j4; exact om_a5745fee b39.2 b39.1 p40 w676 h892) ?_
                  intro v893 h894
                  refine q_putX dX12_readEvent_161 fl12_265 (kR14 hS877.1 ta1) (Or.inl rfl) hS877 ta1 (by decide +kernel) (hS877.1.putE (i := v37.toNatClampNeg) ta1 d67 d69 (by rw [c880]; exact (ti_nat (by exact om_74bf4760 b39.2 b39.1 p40 w676 h892 h894)).symm) (by rw [c880]; exact om_5a680f8c p40 w676 h892 h894) (by exact om_b299b1e6 pre18 b31.2 b31.1 p32 b39.2 b39.1 p40 kd74 h619 p631 p632 w674 w676 h684 h685 h687 h688 h694 h696 h752 h753 p777 p776 b810.1 h824 h825 h892 h894) (by rw [c887, c888]; exact om_bcec1386 pre18 kd74)) ?_
                  intro I895 hS896 e897 f898
                  have c899 : I895 a0 13 = v806 := (f898 _ _ (fun q => absurd q.2 (by decide))).trans c881
                  have c900 : I895 a0 9 = v808 := (f898 _ _ (fun q => absurd q.2 (by decide))).trans c882
                  have c901 : I895 a0 10 = v811 := (f898 _ _ (fun q => absurd q.2 (by decide))).trans c883
                  have c902 : I895 a0 11 = v814 := (f898 _ _ (fun q => absurd q.2 (by decide))).trans c884
                  have c903 : I895 a0 12 = v818 := (f898 _ _ (fun q => absurd q.2 (by decide))).trans c885
                  have c904 : I895 a0 8 = v820 := (f898 _ _ (fun q => absurd q.2 (by decide))).trans c886
                  have c905 : I895 a66 v37.toNatClampNeg = x1 := (f898 _ _ (fun q => by have z := ta66; rw [q.1, ta1] at z; exact absurd z (by decide))).trans c887
                  have c906 : I895 a68 v37.toNatClampNeg = v689 := (f898 _ _ (fun q => by have z := ta68; rw [q.1, ta1] at z; exact absurd z (by decide))).trans c888
                  have hO907 : FrO 14 a1 T I0 I895 := hO889.put f898 ta1 (Or.inr rfl)
                  have hM908 : NmM I895 R0 L760 a1 gQ := NmM.kp1 hM890 f898 ta1 rfl rfl hS877.1 ta1
                  have eF := hF.eq
                  have eP := hP.eq
                  have es909 := evS_c0 (B := gB) (Q := gQ) (k := srt gB gs) (s := (tkN gB gs)) (by exact om_feb572f0 pre18 kd74) (by exact om_8bca188d pre18 kd74)
                  obtain ⟨v910, c911⟩ : ∃ v, I895 a0 14 = v := ⟨_, rfl⟩
                  exact tr_vret hZ dX12_readEvent_164 rfl (by decide) (by decide) ⟨rfl, rfl, rfl, rfl, rfl, hS896, (fun b hb => (Option.some.inj (d2.symm.trans hb)) ▸ (((((((((FrM.rf (R := R0) (b := a1) (T := T)).st g623 (by decide +kernel)).st g700 (by decide +kernel)).st g761 (by decide +kernel)).pu f833 (by decide) (by decide) d67).pu f850 (by decide) (by decide) d69).pu f863 (by decide) (by decide) d71).pu f878 (by decide) (by decide) d73).put f898 ta1 (by decide))), (fun dr hd => (Option.some.inj (d2.symm.trans hd)) ▸ hO907), (Or.inl ⟨(by (try rw [w673]); (try rw [es909]); first | done | with_reducible assumption | omega), (fun q0 z0 => by obtain rfl := Option.some.inj ((d2).symm.trans z0); (try rw [w673]); (try rw [es909]); (try rw [((hS896.cell ta1 (by decide +kernel)).trans c30)]); first | done | with_reducible assumption | exact om_2757374c p32 w674), (fun q0 z0 => by obtain rfl := Option.some.inj ((d2).symm.trans z0); (try rw [w673]); (try rw [es909]); (try rw [((hS896.cell ta1 (by decide +kernel)).trans c34)]); first | done | with_reducible assumption | exact om_2757374c p36 w675), (fun q0 z0 => by obtain rfl := Option.some.inj ((d2).symm.trans z0); (try rw [w673]); (try rw [es909]); (try rw [e897]); first | done | with_reducible assumption | exact om_7149e5be p40 w676 h892 h894), (fun q0 z0 => by obtain rfl := Option.some.inj ((d2).symm.trans z0); (try rw [w673]); (try rw [es909]); (try rw [((hS896.cell ta1 (by decide +kernel)).trans c42)]); first | done | with_reducible assumption | exact om_2757374c p44 w677), (fun q0 z0 => by obtain rfl := Option.some.inj ((d2).symm.trans z0); (try rw [w673]); (try rw [es909]); (try rw [((hS896.cell ta1 (by decide +kernel)).trans c46)]); first | done | with_reducible assumption | exact om_2757374c p48 w678), (fun q0 z0 => by obtain rfl := Option.some.inj ((d2).symm.trans z0); (try rw [w673]); (try rw [es909]); (try rw [((hS896.cell ta1 (by decide +kernel)).trans c50)]); first | done | with_reducible assumption | exact om_2757374c p52 w679), (fun q0 z0 => by obtain rfl := Option.some.inj ((d2).symm.trans z0); (try rw [w673]); (try rw [es909]); (try rw [((hS896.cell ta1 (by decide +kernel)).trans c54)]); first | done | with_reducible assumption | exact om_2757374c p56 w680), (fun q0 z0 => by obtain rfl := Option.some.inj ((d2).symm.trans z0); (try rw [w673]); (try rw [es909]); (try rw [((hS896.cell ta1 (by decide +kernel)).trans c58)]); first | done | with_reducible assumption | exact om_2757374c p60 w682), (by (try rw [w673]); (try rw [es909]); (try rw [c899]); (try rw [c65]); first | done | with_reducible assumption | exact om_1c22ab7e p633 p712 p775), (by (try rw [w673]); (try rw [es909]); (try rw [c900]); first | done | with_reducible assumption | omega), (by (try rw [w673]); (try rw [es909]); (try rw [c900]); first | done | with_reducible assumption | omega), (by (try rw [w673]); (try rw [es909]); (try rw [c901]); first | done | with_reducible assumption | omega), (by (try rw [w673]); (try rw [es909]); (try rw [c902]); first | done | with_reducible assumption | omega), (by (try rw [w673]); (try rw [es909]); (try rw [c817]); first | done | assumption), (by (try rw [w673]); (try rw [es909]); (try rw [c903]); first | done | assumption), (by (try rw [w673]); (try rw [es909]); (try rw [c904]); first | done | assumption), hL804, (fun b hb => (Option.some.inj (d2.symm.trans hb)) ▸ NmM.ln (NmM.bd (k := srt gB gs) hM908 (by exact om_96408bac pre18 kd74) (by exact om_541a35f4 pre18 kd74)) rfl), (fun E b hb hE => by obtain rfl := Option.some.inj (d2.symm.trans hb); exact AlM.ev hE hW0 ta1 (by exact om_feb572f0 pre18 kd74) (by exact om_80600499 pre18 kd74) (by exact om_145f2c8e b39.2 b39.1 p40 w676 h892 h894) (by exact om_23bf951a pre18 b31.2 b31.1 p32 b39.2 b39.1 p40 kd74 h619 p631 p632 w674 w676 h684 h685 h687 h688 h694 h696 h752 h753 p777 p776 b810.1 h824 h825 h892 h894) (hS896.cell ta1 (by decide +kernel)) (RoF.st (ex := xr 54 57) hS896 (by decide +kernel)) (fun f hf => match f, hf with | 0, _ => (fun a ha => by obtain rfl := Option.some.inj (d67.symm.trans ha); have zi : v37.toNatClampNeg = (gQ 2).toNat := congrArg Int.toNat (by exact om_acd7a85a p40); have ze := (Eq.trans ((f898 _ _ (fun q => by have z := ta66; rw [q.1, ta1] at z; exact absurd z (by decide))).trans ((f878 _ _ (fun q => by have z := ta66; rw [q.1, ta72] at z; exact absurd z (by decide))).trans ((f863 _ _ (fun q => by have z := ta66; rw [q.1, ta70] at z; exact absurd z (by decide))).trans (f850 _ _ (fun q => by have z := ta66; rw [q.1, ta68] at z; exact absurd z (by decide)))))) e832); rw [zi] at ze; exact ⟨by rw [ze]; exact om_744a20de pre18, fun j hj => ((f898 _ _ (fun q => by have z := ta66; rw [q.1, ta1] at z; exact absurd z (by decide))).trans ((f878 _ _ (fun q => by have z := ta66; rw [q.1, ta72] at z; exact absurd z (by decide))).trans ((f863 _ _ (fun q => by have z := ta66; rw [q.1, ta70] at z; exact absurd z (by decide))).trans ((f850 _ _ (fun q => by have z := ta66; rw [q.1, ta68] at z; exact absurd z (by decide))).trans ((f833 _ _ (fun q => hj (q.2.trans zi))).trans ((g761.cell ta66 (wm_no (by decide +kernel))).trans ((g700.cell ta66 (wm_no (by decide +kernel))).trans (g623.cell ta66 (wm_no (by decide +kernel))))))))))⟩) | 1, _ => (fun a ha => by obtain rfl := Option.some.inj (d69.symm.trans ha); have zi : v37.toNatClampNeg = (gQ 2).toNat := congrArg Int.toNat (by exact om_acd7a85a p40); have ze := (Eq.trans ((f898 _ _ (fun q => by have z := ta68; rw [q.1, ta1] at z; exact absurd z (by decide))).trans ((f878 _ _ (fun q => by have z := ta68; rw [q.1, ta72] at z; exact absurd z (by decide))).trans (f863 _ _ (fun q => by have z := ta68; rw [q.1, ta70] at z; exact absurd z (by decide))))) e849); rw [zi] at ze; exact ⟨by rw [ze]; exact om_e3b98acf pre18 kd74 h690 h692 p708 p710 h755 h757, fun j hj => ((f898 _ _ (fun q => by have z := ta68; rw [q.1, ta1] at z; exact absurd z (by decide))).trans ((f878 _ _ (fun q => by have z := ta68; rw [q.1, ta72] at z; exact absurd z (by decide))).trans ((f863 _ _ (fun q => by have z := ta68; rw [q.1, ta70] at z; exact absurd z (by decide))).trans ((f850 _ _ (fun q => hj (q.2.trans zi))).trans ((f833 _ _ (fun q => by have z := ta68; rw [q.1, ta66] at z; exact absurd z (by decide))).trans ((g761.cell ta68 (wm_no (by decide +kernel))).trans ((g700.cell ta68 (wm_no (by decide +kernel))).trans (g623.cell ta68 (wm_no (by decide +kernel))))))))))⟩) | 2, _ => (fun a ha => by obtain rfl := Option.some.inj (d71.symm.trans ha); have zi : v37.toNatClampNeg = (gQ 2).toNat := congrArg Int.toNat (by exact om_acd7a85a p40); have ze := (Eq.trans ((f898 _ _ (fun q => by have z := ta70; rw [q.1, ta1] at z; exact absurd z (by decide))).trans (f878 _ _ (fun q => by have z := ta70; rw [q.1, ta72] at z; exact absurd z (by decide)))) e864); rw [zi] at ze; exact ⟨by rw [ze]; exact om_fb3b341a pre18 kd74 p708, fun j hj => ((f898 _ _ (fun q => by have z := ta70; rw [q.1, ta1] at z; exact absurd z (by decide))).trans ((f878 _ _ (fun q => by have z := ta70; rw [q.1, ta72] at z; exact absurd z (by decide))).trans ((f863 _ _ (fun q => hj (q.2.trans zi))).trans ((f850 _ _ (fun q => by have z := ta70; rw [q.1, ta68] at z; exact absurd z (by decide))).trans ((f833 _ _ (fun q => by have z := ta70; rw [q.1, ta66] at z; exact absurd z (by decide))).trans ((g761.cell ta70 (wm_no (by decide +kernel))).trans ((g700.cell ta70 (wm_no (by decide +kernel))).trans (g623.cell ta70 (wm_no (by decide +kernel))))))))))⟩) | 3, _ => (fun a ha => by obtain rfl := Option.some.inj (d73.symm.trans ha); have zi : v37.toNatClampNeg = (gQ 2).toNat := congrArg Int.toNat (by exact om_acd7a85a p40); have ze := (Eq.trans (f898 _ _ (fun q => by have z := ta72; rw [q.1, ta1] at z; exact absurd z (by decide))) e879); rw [zi] at ze; exact ⟨by rw [ze]; exact om_310c5abd pre18 kd74 p769, fun j hj => ((f898 _ _ (fun q => by have z := ta72; rw [q.1, ta1] at z; exact absurd z (by decide))).trans ((f878 _ _ (fun q => hj (q.2.trans zi))).trans ((f863 _ _ (fun q => by have z := ta72; rw [q.1, ta70] at z; exact absurd z (by decide))).trans ((f850 _ _ (fun q => by have z := ta72; rw [q.1, ta68] at z; exact absurd z (by decide))).trans ((f833 _ _ (fun q => by have z := ta72; rw [q.1, ta66] at z; exact absurd z (by decide))).trans ((g761.cell ta72 (wm_no (by decide +kernel))).trans ((g700.cell ta72 (wm_no (by decide +kernel))).trans (g623.cell ta72 (wm_no (by decide +kernel))))))))))⟩) | f + 4, h => absurd h (by exact om_551ec4b1 h))), trivial⟩), trivial⟩
                · skip
                  exfalso; exact om_99cda0b7 p777 p776 b810.1 h824 h825
              · skip
                obtain ⟨v912, c913⟩ : ∃ v, I758 a0 9 = v := ⟨_, rfl⟩
                have b914 := iv15_9 hS766.1 ta0 c913
                rw [c913] at p786
                obtain ⟨v915, c916⟩ : ∃ v, I758 a0 13 = v := ⟨_, rfl⟩
                rw [c916] at p787
                obtain ⟨v917, c918⟩ : ∃ v, I758 a0 14 = v := ⟨_, rfl⟩
                rw [c918] at p788
                replace hF := hF.pos (by exact om_5c733ef2 p785)
                replace hP := hP.pos (by exact om_5c733ef2 p785)
                refine tr_istore dX12_readEvent_86 (by decide) (by decide) ?_
                refine sf_oE88 hE hZ hS766.1 (gB) ta0 (by (try rw [c913]); first | done | with_reducible assumption | omega) ⟨_, d2⟩ rfl rfl rfl rfl rfl ?_
                rintro I919 R920 L921 ⟨g922, p923, p924, p925, rp926, -⟩
                obtain rfl : R0 = R920 := funext fun a => funext fun j => (g922.2.2 a j (wm_no rfl)).symm
                have hS927 := hS766.tr g922 (by decide +kernel) (by decide +kernel)
                have c928 : I919 a1 2 = v37 := (g922.cell ta1 (by decide +kernel)).trans c767
                have c929 : I919 a0 9 = v912 := (g922.cell ta0 (by decide +kernel)).trans c913
                have c930 : I919 a0 13 = v915 := (g922.cell ta0 (by decide +kernel)).trans c916
                have c931 : I919 a0 14 = v917 := (g922.cell ta0 (by decide +kernel)).trans c918
                have hO932 : FrO 14 a1 T I0 I919 := hO768.st g922 (by decide +kernel)
                rw [c929] at p923
                rw [c930] at p924
                rw [c916] at p924
                rw [c931] at p925
                rw [c918] at p925
                have eF := hF.eq
                have eP := hP.eq
                obtain ⟨v933, c934⟩ : ∃ v, I919 a0 10 = v := ⟨_, rfl⟩
                have b935 := iv15_10 hS927.1 ta0 c934
                obtain ⟨v936, c937⟩ : ∃ v, I919 a0 11 = v := ⟨_, rfl⟩
                obtain ⟨y938, c939⟩ : ∃ v, L921 a0 15 = v := ⟨_, rfl⟩
                obtain ⟨v940, c941⟩ : ∃ v, I919 a0 12 = v := ⟨_, rfl⟩
                obtain ⟨v942, c943⟩ : ∃ v, I919 a0 8 = v := ⟨_, rfl⟩
                have b944 := iv15_8 hS927.1 ta0 c943
                exact ⟨rfl, rfl, rfl, rfl, rfl, hS927, (fun b hb => (Option.some.inj (d2.symm.trans hb)) ▸ (((((FrM.rf (R := R0) (b := a1) (T := T)).st g623 (by decide +kernel)).st g700 (by decide +kernel)).st g761 (by decide +kernel)).st g922 (by decide +kernel))), (fun dr hd => (Option.some.inj (d2.symm.trans hd)) ▸ hO932), (Or.inr (⟨(by first | done | with_reducible assumption | exact om_7fac24c5 eF), (by (try rw [c929]); first | done | with_reducible assumption | omega), (by (try rw [c930]); first | done | with_reducible assumption | exact om_3345b898 p787 eF), (by (try rw [c931]); first | done | with_reducible assumption | exact om_2757374c p788 eP), trivial⟩)), trivial⟩
              · skip
                obtain ⟨v945, c946⟩ : ∃ v, I758 a0 9 = v := ⟨_, rfl⟩
                have b947 := iv15_9 hS766.1 ta0 c946
                rw [c946] at p793
                obtain ⟨v948, c949⟩ : ∃ v, I758 a0 13 = v := ⟨_, rfl⟩
                rw [c949] at p794
                obtain ⟨v950, c951⟩ : ∃ v, I758 a0 14 = v := ⟨_, rfl⟩
                rw [c951] at p795
                replace hF := hF.neg (by exact om_04941ac6 p790 p791)
                replace hP := hP.neg (by exact om_04941ac6 p790 p791)
                replace hF := hF.pos (by exact om_73cc8e29 p792)
                replace hP := hP.pos (by exact om_73cc8e29 p792)
                refine tr_istore dX12_readEvent_86 (by decide) (by decide) ?_
                refine sf_oE88 hE hZ hS766.1 (gB) ta0 (by (try rw [c946]); first | done | with_reducible assumption | omega) ⟨_, d2⟩ rfl rfl rfl rfl rfl ?_
                rintro I952 R953 L954 ⟨g955, p956, p957, p958, rp959, -⟩
                obtain rfl : R0 = R953 := funext fun a => funext fun j => (g955.2.2 a j (wm_no rfl)).symm
                have hS960 := hS766.tr g955 (by decide +kernel) (by decide +kernel)
                have c961 : I952 a1 2 = v37 := (g955.cell ta1 (by decide +kernel)).trans c767
                have c962 : I952 a0 9 = v945 := (g955.cell ta0 (by decide +kernel)).trans c946
                have c963 : I952 a0 13 = v948 := (g955.cell ta0 (by decide +kernel)).trans c949
                have c964 : I952 a0 14 = v950 := (g955.cell ta0 (by decide +kernel)).trans c951
                have hO965 : FrO 14 a1 T I0 I952 := hO768.st g955 (by decide +kernel)
                rw [c962] at p956
                rw [c963] at p957
                rw [c949] at p957
                rw [c964] at p958
                rw [c951] at p958
                have eF := hF.eq
                have eP := hP.eq
                obtain ⟨v966, c967⟩ : ∃ v, I952 a0 10 = v := ⟨_, rfl⟩
                have b968 := iv15_10 hS960.1 ta0 c967
                obtain ⟨v969, c970⟩ : ∃ v, I952 a0 11 = v := ⟨_, rfl⟩
                obtain ⟨y971, c972⟩ : ∃ v, L954 a0 15 = v := ⟨_, rfl⟩
                obtain ⟨v973, c974⟩ : ∃ v, I952 a0 12 = v := ⟨_, rfl⟩
                obtain ⟨v975, c976⟩ : ∃ v, I952 a0 8 = v := ⟨_, rfl⟩
                have b977 := iv15_8 hS960.1 ta0 c976
                exact ⟨rfl, rfl, rfl, rfl, rfl, hS960, (fun b hb => (Option.some.inj (d2.symm.trans hb)) ▸ (((((FrM.rf (R := R0) (b := a1) (T := T)).st g623 (by decide +kernel)).st g700 (by decide +kernel)).st g761 (by decide +kernel)).st g955 (by decide +kernel))), (fun dr hd => (Option.some.inj (d2.symm.trans hd)) ▸ hO965), (Or.inr (⟨(by first | done | with_reducible assumption | exact om_7fac24c5 eF), (by (try rw [c962]); first | done | with_reducible assumption | omega), (by (try rw [c963]); first | done | with_reducible assumption | exact om_3345b898 p794 eF), (by (try rw [c964]); first | done | with_reducible assumption | exact om_2757374c p795 eP), trivial⟩)), trivial⟩
              · skip
                obtain ⟨v978, c979⟩ : ∃ v, I758 a0 9 = v := ⟨_, rfl⟩
                have b980 := iv15_9 hS766.1 ta0 c979
                rw [c979] at p801
                obtain ⟨v981, c982⟩ : ∃ v, I758 a0 13 = v := ⟨_, rfl⟩
                rw [c982] at p802
                obtain ⟨v983, c984⟩ : ∃ v, I758 a0 14 = v := ⟨_, rfl⟩
                rw [c984] at p803
                replace hF := hF.neg (by exact om_04941ac6 p797 p798)
                replace hP := hP.neg (by exact om_04941ac6 p797 p798)
                replace hF := hF.neg (by exact om_10ed11b5 p799)
                replace hP := hP.neg (by exact om_10ed11b5 p799)
                replace hF := hF.pos (by exact om_ecc016f6 p32 w674 h694 h696 p708 h755 h757 p800)
                replace hP := hP.pos (by exact om_ecc016f6 p32 w674 h694 h696 p708 h755 h757 p800)
                refine tr_istore dX12_readEvent_86 (by decide) (by decide) ?_
                refine sf_oE88 hE hZ hS766.1 (gB) ta0 (by (try rw [c979]); first | done | with_reducible assumption | omega) ⟨_, d2⟩ rfl rfl rfl rfl rfl ?_
                rintro I985 R986 L987 ⟨g988, p989, p990, p991, rp992, -⟩
                obtain rfl : R0 = R986 := funext fun a => funext fun j => (g988.2.2 a j (wm_no rfl)).symm
                have hS993 := hS766.tr g988 (by decide +kernel) (by decide +kernel)
                have c994 : I985 a1 2 = v37 := (g988.cell ta1 (by decide +kernel)).trans c767
                have c995 : I985 a0 9 = v978 := (g988.cell ta0 (by decide +kernel)).trans c979
                have c996 : I985 a0 13 = v981 := (g988.cell ta0 (by decide +kernel)).trans c982
                have c997 : I985 a0 14 = v983 := (g988.cell ta0 (by decide +kernel)).trans c984
                have hO998 : FrO 14 a1 T I0 I985 := hO768.st g988 (by decide +kernel)
                rw [c995] at p989
                rw [c996] at p990
                rw [c982] at p990
                rw [c997] at p991
                rw [c984] at p991
                have eF := hF.eq
                have eP := hP.eq
                obtain ⟨v999, c1000⟩ : ∃ v, I985 a0 10 = v := ⟨_, rfl⟩
                have b1001 := iv15_10 hS993.1 ta0 c1000
                obtain ⟨v1002, c1003⟩ : ∃ v, I985 a0 11 = v := ⟨_, rfl⟩
                obtain ⟨y1004, c1005⟩ : ∃ v, L987 a0 15 = v := ⟨_, rfl⟩
                obtain ⟨v1006, c1007⟩ : ∃ v, I985 a0 12 = v := ⟨_, rfl⟩
                obtain ⟨v1008, c1009⟩ : ∃ v, I985 a0 8 = v := ⟨_, rfl⟩
                have b1010 := iv15_8 hS993.1 ta0 c1009
                exact ⟨rfl, rfl, rfl, rfl, rfl, hS993, (fun b hb => (Option.some.inj (d2.symm.trans hb)) ▸ (((((FrM.rf (R := R0) (b := a1) (T := T)).st g623 (by decide +kernel)).st g700 (by decide +kernel)).st g761 (by decide +kernel)).st g988 (by decide +kernel))), (fun dr hd => (Option.some.inj (d2.symm.trans hd)) ▸ hO998), (Or.inr (⟨(by first | done | with_reducible assumption | exact om_7b84bd42 eF), (by (try rw [c995]); first | done | with_reducible assumption | omega), (by (try rw [c996]); first | done | with_reducible assumption | exact om_46d5da87 p802 eF), (by (try rw [c997]); first | done | with_reducible assumption | exact om_2757374c p803 eP), trivial⟩)), trivial⟩
            · skip
              exfalso; exact om_3ea76577 pre18 kd74 h752 h753
          · skip
            obtain ⟨v1011, c1012⟩ : ∃ v, I697 a0 9 = v := ⟨_, rfl⟩
            have b1013 := iv15_9 hS705.1 ta0 c1012
            rw [c1012] at p723
            obtain ⟨v1014, c1015⟩ : ∃ v, I697 a0 13 = v := ⟨_, rfl⟩
            rw [c1015] at p724
            obtain ⟨v1016, c1017⟩ : ∃ v, I697 a0 14 = v := ⟨_, rfl⟩
            rw [c1017] at p725
            replace hF := hF.pos (by exact om_73cc8e29 p722)
            replace hP := hP.pos (by exact om_73cc8e29 p722)
            refine tr_istore_n dX12_readEvent_57 (by decide) (by decide) ?_
            refine sf_oE58 hE hZ hS705.1 (gB) ta0 (by (try rw [c1012]); first | done | with_reducible assumption | omega) ⟨_, d2⟩ rfl rfl rfl rfl ?_
            rintro I1018 R1019 L1020 ⟨g1021, p1022, p1023, p1024, rp1025, -⟩
            obtain rfl : R0 = R1019 := funext fun a => funext fun j => (g1021.2.2 a j (wm_no rfl)).symm
            have hS1026 := hS705.tr g1021 (by decide +kernel) (by decide +kernel)
            have c1027 : I1018 a1 2 = v37 := (g1021.cell ta1 (by decide +kernel)).trans c706
            have hO1028 : FrO 14 a1 T I0 I1018 := hO707.st g1021 (by decide +kernel)
            obtain ⟨v1029, c1030⟩ : ∃ v, I1018 a0 9 = v := ⟨_, rfl⟩
            have b1031 := iv15_9 hS1026.1 ta0 c1030
            rw [c1030] at p1022
            obtain ⟨v1032, c1033⟩ : ∃ v, I1018 a0 13 = v := ⟨_, rfl⟩
            rw [c1033] at p1023
            rw [c1015] at p1023
            obtain ⟨v1034, c1035⟩ : ∃ v, I1018 a0 14 = v := ⟨_, rfl⟩
            rw [c1035] at p1024
            rw [c1017] at p1024
            have eF := hF.eq
            have eP := hP.eq
            obtain ⟨v1036, c1037⟩ : ∃ v, I1018 a0 10 = v := ⟨_, rfl⟩
            have b1038 := iv15_10 hS1026.1 ta0 c1037
            obtain ⟨v1039, c1040⟩ : ∃ v, I1018 a0 11 = v := ⟨_, rfl⟩
            obtain ⟨y1041, c1042⟩ : ∃ v, L1020 a0 15 = v := ⟨_, rfl⟩
            obtain ⟨v1043, c1044⟩ : ∃ v, I1018 a0 12 = v := ⟨_, rfl⟩
            obtain ⟨v1045, c1046⟩ : ∃ v, I1018 a0 8 = v := ⟨_, rfl⟩
            have b1047 := iv15_8 hS1026.1 ta0 c1046
            exact ⟨rfl, rfl, rfl, rfl, rfl, hS1026, (fun b hb => (Option.some.inj (d2.symm.trans hb)) ▸ ((((FrM.rf (R := R0) (b := a1) (T := T)).st g623 (by decide +kernel)).st g700 (by decide +kernel)).st g1021 (by decide +kernel))), (fun dr hd => (Option.some.inj (d2.symm.trans hd)) ▸ hO1028), (Or.inr (⟨(by first | done | with_reducible assumption | exact om_7fac24c5 eF), (by (try rw [c1030]); first | done | with_reducible assumption | omega), (by (try rw [c1033]); first | done | with_reducible assumption | exact om_9adad658 p724 p1023 eF), (by (try rw [c1035]); first | done | with_reducible assumption | exact om_3998a42e p725 p1024 eP), trivial⟩)), trivial⟩
          · skip
            obtain ⟨v1048, c1049⟩ : ∃ v, I697 a0 9 = v := ⟨_, rfl⟩
            have b1050 := iv15_9 hS705.1 ta0 c1049
            rw [c1049] at p729
            obtain ⟨v1051, c1052⟩ : ∃ v, I697 a0 13 = v := ⟨_, rfl⟩
            rw [c1052] at p730
            obtain ⟨v1053, c1054⟩ : ∃ v, I697 a0 14 = v := ⟨_, rfl⟩
            rw [c1054] at p731
            replace hF := hF.neg (by exact om_10ed11b5 p727)
            replace hP := hP.neg (by exact om_10ed11b5 p727)
            replace hF := hF.pos (by exact om_41eb13e5 p32 w674 h692 h694 h696 p728)
            replace hP := hP.pos (by exact om_41eb13e5 p32 w674 h692 h694 h696 p728)
            refine tr_istore_n dX12_readEvent_57 (by decide) (by decide) ?_
            refine sf_oE58 hE hZ hS705.1 (gB) ta0 (by (try rw [c1049]); first | done | with_reducible assumption | omega) ⟨_, d2⟩ rfl rfl rfl rfl ?_
            rintro I1055 R1056 L1057 ⟨g1058, p1059, p1060, p1061, rp1062, -⟩
            obtain rfl : R0 = R1056 := funext fun a => funext fun j => (g1058.2.2 a j (wm_no rfl)).symm
            have hS1063 := hS705.tr g1058 (by decide +kernel) (by decide +kernel)
            have c1064 : I1055 a1 2 = v37 := (g1058.cell ta1 (by decide +kernel)).trans c706
            have hO1065 : FrO 14 a1 T I0 I1055 := hO707.st g1058 (by decide +kernel)
            obtain ⟨v1066, c1067⟩ : ∃ v, I1055 a0 9 = v := ⟨_, rfl⟩
            have b1068 := iv15_9 hS1063.1 ta0 c1067
            rw [c1067] at p1059
            obtain ⟨v1069, c1070⟩ : ∃ v, I1055 a0 13 = v := ⟨_, rfl⟩
            rw [c1070] at p1060
            rw [c1052] at p1060
            obtain ⟨v1071, c1072⟩ : ∃ v, I1055 a0 14 = v := ⟨_, rfl⟩
            rw [c1072] at p1061
            rw [c1054] at p1061
            have eF := hF.eq
            have eP := hP.eq
            obtain ⟨v1073, c1074⟩ : ∃ v, I1055 a0 10 = v := ⟨_, rfl⟩
            have b1075 := iv15_10 hS1063.1 ta0 c1074
            obtain ⟨v1076, c1077⟩ : ∃ v, I1055 a0 11 = v := ⟨_, rfl⟩
            obtain ⟨y1078, c1079⟩ : ∃ v, L1057 a0 15 = v := ⟨_, rfl⟩
            obtain ⟨v1080, c1081⟩ : ∃ v, I1055 a0 12 = v := ⟨_, rfl⟩
            obtain ⟨v1082, c1083⟩ : ∃ v, I1055 a0 8 = v := ⟨_, rfl⟩
            have b1084 := iv15_8 hS1063.1 ta0 c1083
            exact ⟨rfl, rfl, rfl, rfl, rfl, hS1063, (fun b hb => (Option.some.inj (d2.symm.trans hb)) ▸ ((((FrM.rf (R := R0) (b := a1) (T := T)).st g623 (by decide +kernel)).st g700 (by decide +kernel)).st g1058 (by decide +kernel))), (fun dr hd => (Option.some.inj (d2.symm.trans hd)) ▸ hO1065), (Or.inr (⟨(by first | done | with_reducible assumption | exact om_7b84bd42 eF), (by (try rw [c1067]); first | done | with_reducible assumption | omega), (by (try rw [c1070]); first | done | with_reducible assumption | exact om_4510ffdb p730 p1060 eF), (by (try rw [c1072]); first | done | with_reducible assumption | exact om_3998a42e p731 p1061 eP), trivial⟩)), trivial⟩
        · skip
          exfalso; exact om_d00bfee1 pre18 kd74 h687 h688
    · skip
      obtain ⟨v1085, c1086⟩ : ∃ v, I620 a0 9 = v := ⟨_, rfl⟩
      have b1087 := iv15_9 hS628.1 ta0 c1086
      rw [c1086] at p643
      obtain ⟨v1088, c1089⟩ : ∃ v, I620 a0 13 = v := ⟨_, rfl⟩
      rw [c1089] at p644
      obtain ⟨v1090, c1091⟩ : ∃ v, I620 a0 14 = v := ⟨_, rfl⟩
      rw [c1091] at p645
      have p1092 := p61
      unfold Q7M at p1092
      replace hF := hF.pos (by exact om_c551cdd0 pre18 p40 kd74 h619 p642)
      replace hP := hP.pos (by exact om_c551cdd0 pre18 p40 kd74 h619 p642)
      clear p1092
      refine sf_oE13 hE hZ hS628.1 (gB) ta0 (by (try rw [c1086]); first | done | with_reducible assumption | omega) ⟨_, d2⟩ rfl rfl ?_
      rintro I1093 R1094 L1095 ⟨g1096, p1097, p1098, p1099, rp1100, -⟩
      obtain rfl : R0 = R1094 := funext fun a => funext fun j => (g1096.2.2 a j (wm_no rfl)).symm
      have hS1101 := hS628.tr g1096 (by decide +kernel) (by decide +kernel)
      have c1102 : I1093 a1 2 = v37 := (g1096.cell ta1 (by decide +kernel)).trans c629
      have hO1103 : FrO 14 a1 T I0 I1093 := hO630.st g1096 (by decide +kernel)
      obtain ⟨v1104, c1105⟩ : ∃ v, I1093 a0 9 = v := ⟨_, rfl⟩
      have b1106 := iv15_9 hS1101.1 ta0 c1105
      rw [c1105] at p1097
      obtain ⟨v1107, c1108⟩ : ∃ v, I1093 a0 13 = v := ⟨_, rfl⟩
      rw [c1108] at p1098
      rw [c1089] at p1098
      obtain ⟨v1109, c1110⟩ : ∃ v, I1093 a0 14 = v := ⟨_, rfl⟩
      rw [c1110] at p1099
      rw [c1091] at p1099
      have eF := hF.eq
      have eP := hP.eq
      obtain ⟨v1111, c1112⟩ : ∃ v, I1093 a0 10 = v := ⟨_, rfl⟩
      have b1113 := iv15_10 hS1101.1 ta0 c1112
      obtain ⟨v1114, c1115⟩ : ∃ v, I1093 a0 11 = v := ⟨_, rfl⟩
      obtain ⟨y1116, c1117⟩ : ∃ v, L1095 a0 15 = v := ⟨_, rfl⟩
      obtain ⟨v1118, c1119⟩ : ∃ v, I1093 a0 12 = v := ⟨_, rfl⟩
      obtain ⟨v1120, c1121⟩ : ∃ v, I1093 a0 8 = v := ⟨_, rfl⟩
      have b1122 := iv15_8 hS1101.1 ta0 c1121
      exact ⟨rfl, rfl, rfl, rfl, rfl, hS1101, (fun b hb => (Option.some.inj (d2.symm.trans hb)) ▸ (((FrM.rf (R := R0) (b := a1) (T := T)).st g623 (by decide +kernel)).st g1096 (by decide +kernel))), (fun dr hd => (Option.some.inj (d2.symm.trans hd)) ▸ hO1103), (Or.inr (⟨(by first | done | with_reducible assumption | exact om_64c62efe eF), (by (try rw [c1105]); first | done | with_reducible assumption | omega), (by (try rw [c1108]); first | done | with_reducible assumption | exact om_7fd518bd p644 p1098 eF), (by (try rw [c1110]); first | done | with_reducible assumption | exact om_8e6888af p11 p645 p1099 eP), trivial⟩)), trivial⟩
    · skip
      obtain ⟨v1123, c1124⟩ : ∃ v, I620 a0 9 = v := ⟨_, rfl⟩
      have b1125 := iv15_9 hS628.1 ta0 c1124
      rw [c1124] at p648
      obtain ⟨v1126, c1127⟩ : ∃ v, I620 a0 13 = v := ⟨_, rfl⟩
      rw [c1127] at p649
      obtain ⟨v1128, c1129⟩ : ∃ v, I620 a0 14 = v := ⟨_, rfl⟩
      rw [c1129] at p650
      have p1130 := p61
      unfold Q7M at p1130
      replace hF := hF.neg (by exact om_a5313791 pre18 b39.2 b39.1 p40 kd74 h619 p646 p647 p1130)
      replace hP := hP.neg (by exact om_a5313791 pre18 b39.2 b39.1 p40 kd74 h619 p646 p647 p1130)
      replace hF := hF.pos (by exact om_bc6a640d pre18 kd74 p647 p1130)
      replace hP := hP.pos (by exact om_bc6a640d pre18 kd74 p647 p1130)
      clear p1130
      refine sf_oE13 hE hZ hS628.1 (gB) ta0 (by (try rw [c1124]); first | done | with_reducible assumption | omega) ⟨_, d2⟩ rfl rfl ?_
      rintro I1131 R1132 L1133 ⟨g1134, p1135, p1136, p1137, rp1138, -⟩
      obtain rfl : R0 = R1132 := funext fun a => funext fun j => (g1134.2.2 a j (wm_no rfl)).symm
      have hS1139 := hS628.tr g1134 (by decide +kernel) (by decide +kernel)
      have c1140 : I1131 a1 2 = v37 := (g1134.cell ta1 (by decide +kernel)).trans c629
      have hO1141 : FrO 14 a1 T I0 I1131 := hO630.st g1134 (by decide +kernel)
      obtain ⟨v1142, c1143⟩ : ∃ v, I1131 a0 9 = v := ⟨_, rfl⟩
      have b1144 := iv15_9 hS1139.1 ta0 c1143
      rw [c1143] at p1135
      obtain ⟨v1145, c1146⟩ : ∃ v, I1131 a0 13 = v := ⟨_, rfl⟩
      rw [c1146] at p1136
      rw [c1127] at p1136
      obtain ⟨v1147, c1148⟩ : ∃ v, I1131 a0 14 = v := ⟨_, rfl⟩
      rw [c1148] at p1137
      rw [c1129] at p1137
      have eF := hF.eq
      have eP := hP.eq
      obtain ⟨v1149, c1150⟩ : ∃ v, I1131 a0 10 = v := ⟨_, rfl⟩
      have b1151 := iv15_10 hS1139.1 ta0 c1150
      obtain ⟨v1152, c1153⟩ : ∃ v, I1131 a0 11 = v := ⟨_, rfl⟩
      obtain ⟨y1154, c1155⟩ : ∃ v, L1133 a0 15 = v := ⟨_, rfl⟩
      obtain ⟨v1156, c1157⟩ : ∃ v, I1131 a0 12 = v := ⟨_, rfl⟩
      obtain ⟨v1158, c1159⟩ : ∃ v, I1131 a0 8 = v := ⟨_, rfl⟩
      have b1160 := iv15_8 hS1139.1 ta0 c1159
      exact ⟨rfl, rfl, rfl, rfl, rfl, hS1139, (fun b hb => (Option.some.inj (d2.symm.trans hb)) ▸ (((FrM.rf (R := R0) (b := a1) (T := T)).st g623 (by decide +kernel)).st g1134 (by decide +kernel))), (fun dr hd => (Option.some.inj (d2.symm.trans hd)) ▸ hO1141), (Or.inr (⟨(by first | done | with_reducible assumption | exact om_3a8e1f7c eF), (by (try rw [c1143]); first | done | with_reducible assumption | omega), (by (try rw [c1146]); first | done | with_reducible assumption | exact om_1428d4dd p649 p1136 eF), (by (try rw [c1148]); first | done | with_reducible assumption | exact om_8e6888af p11 p650 p1137 eP), trivial⟩)), trivial⟩
  · skip
    refine tr_aload_n dX12_readEvent_0 rfl ?_
    refine tr_aload_n dX12_readEvent_1 rfl ?_
    refine tr_getR dX12_readEvent_2 fl12_188 (kR15 hS0.1 ta0) d2 ?_
    refine q_getI dX12_readEvent_5 fl12_265 (kR14 hS0.1 ta1) c38 ?_
    refine q_bipush dX12_readEvent_8 (by decide +kernel) ?_
    intro v1161 h1162
    refine q_callVv hE (M' := mX12_begins) (as := [_, _]) dX12_readEvent_10 lk12_268 inX12_begins seX12_begins myX12_begins (by decide) ⟨by decide, by decide⟩ rfl (kR15 hS0.1 ta0) (Nat.le_of_ble_eq_true rfl) rfl rfl (by decide) (by decide) (fk_X12_begins hS0.1 (gB) (gs) (gQ) ta0 (TxA.kp hT hS0 ta0 rfl rfl rfl (by decide +kernel) (by decide +kernel)) (by (try rw [c4]); first | done | with_reducible assumption | omega) (by (try rw [c4]); first | done | with_reducible assumption | omega) (by (try rw [c9]); first | done | with_reducible assumption | omega) (by (try rw [c13]); first | done | with_reducible assumption | omega) (by (try rw [c16]); first | done | assumption) (by (try rw [c19]); first | done | assumption) (by (try rw [c22]); first | done | assumption) (by (try rw [c26]); first | done | with_reducible assumption | omega) (fun q0 z0 => by obtain rfl := Option.some.inj ((d2).symm.trans z0); (try rw [c30]); first | done | with_reducible assumption | omega) (by first | done | with_reducible assumption | omega) ⟨_, d2⟩) ?_
    rintro cn' K' N' I1163 R1164 L1165 ⟨rfl, rfl, rfl, rfl, g1166, dj1169, -⟩
    have hM1170 : NmM I1163 R0 L0 a1 gQ := NmM.kpS hM0 g1166 hS0.1 ta1 (by decide +kernel) (by decide +kernel)
    have hS1171 := hS0.tr g1166 (by decide +kernel) (by decide +kernel)
    have c1172 : I1163 a1 2 = v37 := (g1166.cell ta1 (by decide +kernel)).trans c38
    have hO1173 : FrO 14 a1 T I0 I1163 := hO0.st g1166 (by decide +kernel)
    rcases dj1169 with ⟨p1174, p1175, p1176, p1177, p1178, p1179, p1180, p1181, p1182, p1183, gl1184, -⟩ | ⟨p1185, p1186, p1187, p1188, -⟩ | ⟨p1189, p1190, p1191, p1192, p1193, -⟩
    · skip
      have hL1194 := hL0.tr gl1184 (by decide +kernel)
      have hM1195 : NmM I1163 R0 L1165 a1 gQ := NmM.kpL hM1170 gl1184 hS1171.1 ta1 (by decide +kernel)
      obtain ⟨v1196, c1197⟩ : ∃ v, I1163 a0 13 = v := ⟨_, rfl⟩
      rw [c1197] at p1176
      rw [c65] at p1176
      obtain ⟨v1198, c1199⟩ : ∃ v, I1163 a0 9 = v := ⟨_, rfl⟩
      have b1200 := iv15_9 hS1171.1 ta0 c1199
      rw [c1199] at p1177
      rw [c1199] at p1178
      obtain ⟨v1201, c1202⟩ : ∃ v, I1163 a0 10 = v := ⟨_, rfl⟩
      have b1203 := iv15_10 hS1171.1 ta0 c1202
      rw [c1202] at p1179
      obtain ⟨v1204, c1205⟩ : ∃ v, I1163 a0 11 = v := ⟨_, rfl⟩
      rw [c1205] at p1180
      obtain ⟨y1206, c1207⟩ : ∃ v, L1165 a0 15 = v := ⟨_, rfl⟩
      rw [c1207] at p1181
      obtain ⟨v1208, c1209⟩ : ∃ v, I1163 a0 12 = v := ⟨_, rfl⟩
      rw [c1209] at p1182
      obtain ⟨v1210, c1211⟩ : ∃ v, I1163 a0 8 = v := ⟨_, rfl⟩
      have b1212 := iv15_8 hS1171.1 ta0 c1211
      rw [c1211] at p1183
      have p1213 := p61
      unfold Q7M at p1213
      replace hF := hF.neg (by exact om_ff21c0d8 pre18 b31.2 b31.1 p32 b39.2 b39.1 p40 kd74 h1162 p1174 p1175 p1213)
      replace hP := hP.neg (by exact om_ff21c0d8 pre18 b31.2 b31.1 p32 b39.2 b39.1 p40 kd74 h1162 p1174 p1175 p1213)
      replace hF := hF.neg (by exact om_c9c36f3e pre18 kd74 p1175 p1213)
      replace hP := hP.neg (by exact om_c9c36f3e pre18 kd74 p1175 p1213)
      clear p1213
      obtain ⟨w1214, w1215, w1216, w1217, w1218, w1219, w1220, w1221, w1222, w1223, w1224, w1225⟩ := lnl_e (B := gB) (Q := gQ) (s := gs) (by exact om_52b49796 pre18 kd74) (by exact om_da85ae01 pre18 kd74)
      replace hF := hF.to w1214 (evF_c2 (B := gB) (Q := gQ) (k := srt gB gs) (s := (tkN gB gs)) (by exact om_3c04cefc pre18 kd74))
      replace hP := hP.to w1215 (evP_c2 (B := gB) (Q := gQ) (k := srt gB gs) (s := (tkN gB gs)) (by exact om_3c04cefc pre18 kd74))
      refine tr_iload_n dX12_readEvent_13 rfl ?_
      refine q_iconst dX12_readEvent_14 (by decide) ?_
      intro v1226 h1227
      refine q_icmp_eq 23 dX12_readEvent_15 (by decide) (fun h1228 => ?_) (fun h1228 => ?_)
      · skip
        refine tr_aload_n dX12_readEvent_23 rfl ?_
        refine q_iconst dX12_readEvent_24 (by decide) ?_
        intro v1229 h1230
        refine tr_aload_n dX12_readEvent_25 rfl ?_
        refine tr_getR dX12_readEvent_26 fl12_188 (kR15 hS1171.1 ta0) d2 ?_
        refine q_getI dX12_readEvent_29 fl12_263 (kR14 hS1171.1 ta1) ((hS1171.cell ta1 (by decide +kernel)).trans c34) ?_
        refine q_iconst dX12_readEvent_32 (by decide) ?_
        intro v1231 h1232
        refine q_isubE dX12_readEvent_33 (by intro j1 j2 j3 j4; exact om_99c1ed93 b35.2 b35.1 p36 w1218 h1232) ?_
        intro v1233 h1234
        refine q_callVi hE (M' := mX12_readWhole) (as := [_, _]) dX12_readEvent_34 lk12_161 inX12_readWhole seX12_readWhole myX12_readWhole (by decide) ⟨by decide, by decide⟩ rfl (kR15 hS1171.1 ta0) (Nat.le_of_ble_eq_true rfl) rfl rfl (by decide) (by decide) (fk_X12_readWhole hS1171.1 (gB) ((tkN gB gs)) ta0 (TxA.kp hT hS1171 ta0 rfl rfl rfl (by decide +kernel) (by decide +kernel)) (by (try rw [c1199]); first | done | with_reducible assumption | omega) (by (try rw [c1199]); first | done | with_reducible assumption | omega) (by (try rw [c1202]); first | done | with_reducible assumption | omega) (by (try rw [c1205]); first | done | with_reducible assumption | omega) (by (try rw [c1207]); first | done | assumption) (by (try rw [c1209]); first | done | assumption) (by (try rw [c1211]); first | done | assumption) (by (try rw [((hS1171.cell ta0 (by decide +kernel)).trans c26)]); first | done | with_reducible assumption | omega)) ?_
        rintro v1240 cn' K' N' I1235 R1236 L1237 ⟨rfl, rfl, rfl, rfl, g1238, dj1241, -⟩
        have hM1242 : NmM I1235 R0 L1165 a1 gQ := NmM.kpS hM1195 g1238 hS1171.1 ta1 (by decide +kernel) (by decide +kernel)
        have hS1243 := hS1171.tr g1238 (by decide +kernel) (by decide +kernel)
        have c1244 : I1235 a1 2 = v37 := (g1238.cell ta1 (by decide +kernel)).trans c1172
        have hO1245 : FrO 14 a1 T I0 I1235 := hO1173.st g1238 (by decide +kernel)
        rcases dj1241 with ⟨p1246, p1247, p1248, p1249, p1250, p1251, p1252, p1253, p1254, p1255, p1256, p1257, gl1258, -⟩ | ⟨p1259, p1260, p1261, p1262, p1263, -⟩ | ⟨p1264, p1265, p1266, p1267, p1268, p1269, -⟩
        · skip
          have hL1270 := hL1194.tr gl1258 (by decide +kernel)
          have hM1271 : NmM I1235 R0 L1237 a1 gQ := NmM.kpL hM1242 gl1258 hS1243.1 ta1 (by decide +kernel)
          obtain ⟨v1272, c1273⟩ : ∃ v, I1235 a0 13 = v := ⟨_, rfl⟩
          rw [c1273] at p1250
          rw [c1197] at p1250
          obtain ⟨v1274, c1275⟩ : ∃ v, I1235 a0 9 = v := ⟨_, rfl⟩
          have b1276 := iv15_9 hS1243.1 ta0 c1275
          rw [c1275] at p1251
          rw [c1275] at p1252
          obtain ⟨v1277, c1278⟩ : ∃ v, I1235 a0 10 = v := ⟨_, rfl⟩
          have b1279 := iv15_10 hS1243.1 ta0 c1278
          rw [c1278] at p1253
          obtain ⟨v1280, c1281⟩ : ∃ v, I1235 a0 11 = v := ⟨_, rfl⟩
          rw [c1281] at p1254
          obtain ⟨y1282, c1283⟩ : ∃ v, L1237 a0 15 = v := ⟨_, rfl⟩
          rw [c1283] at p1255
          obtain ⟨v1284, c1285⟩ : ∃ v, I1235 a0 12 = v := ⟨_, rfl⟩
          rw [c1285] at p1256
          obtain ⟨v1286, c1287⟩ : ∃ v, I1235 a0 8 = v := ⟨_, rfl⟩
          have b1288 := iv15_8 hS1243.1 ta0 c1287
          rw [c1287] at p1257
          replace hF := hF.neg (by exact om_10ed11b5 p1247)
          replace hP := hP.neg (by exact om_10ed11b5 p1247)
          replace hF := hF.neg (by exact om_4062d996 p36 w1218 h1230 h1232 h1234 p1248 p1249)
          replace hP := hP.neg (by exact om_4062d996 p36 w1218 h1230 h1232 h1234 p1248 p1249)
          refine tr_goto 42 dX12_readEvent_37 (by decide) ?_
          refine tr_istore_n dX12_readEvent_42 (by decide) (by decide) ?_
          refine tr_aload_n dX12_readEvent_43 rfl ?_
          refine q_iconst dX12_readEvent_44 (by decide) ?_
          intro v1289 h1290
          refine tr_aload_n dX12_readEvent_45 rfl ?_
          refine tr_getR dX12_readEvent_46 fl12_188 (kR15 hS1243.1 ta0) d2 ?_
          refine q_getI dX12_readEvent_49 fl12_192 (kR14 hS1243.1 ta1) ((hS1243.cell ta1 (by decide +kernel)).trans c30) ?_
          refine q_iconst dX12_readEvent_52 (by decide) ?_
          intro v1291 h1292
          refine q_isubE dX12_readEvent_53 (by intro j1 j2 j3 j4; exact om_6479810f b31.2 b31.1 p32 w1217 h1292) ?_
          intro v1293 h1294
          refine q_callVi hE (M' := mX12_readWhole) (as := [_, _]) dX12_readEvent_54 lk12_161 inX12_readWhole seX12_readWhole myX12_readWhole (by decide) ⟨by decide, by decide⟩ rfl (kR15 hS1243.1 ta0) (Nat.le_of_ble_eq_true rfl) rfl rfl (by decide) (by decide) (fk_X12_readWhole hS1243.1 (gB) ((tkN gB (tkN gB gs))) ta0 (TxA.kp hT hS1243 ta0 rfl rfl rfl (by decide +kernel) (by decide +kernel)) (by (try rw [c1275]); first | done | with_reducible assumption | omega) (by (try rw [c1275]); first | done | with_reducible assumption | omega) (by (try rw [c1278]); first | done | with_reducible assumption | omega) (by (try rw [c1281]); first | done | with_reducible assumption | omega) (by (try rw [c1283]); first | done | assumption) (by (try rw [c1285]); first | done | assumption) (by (try rw [c1287]); first | done | assumption) (by (try rw [((hS1243.cell ta0 (by decide +kernel)).trans c26)]); first | done | with_reducible assumption | omega)) ?_
          rintro v1300 cn' K' N' I1295 R1296 L1297 ⟨rfl, rfl, rfl, rfl, g1298, dj1301, -⟩
          have hM1302 : NmM I1295 R0 L1237 a1 gQ := NmM.kpS hM1271 g1298 hS1243.1 ta1 (by decide +kernel) (by decide +kernel)
          have hS1303 := hS1243.tr g1298 (by decide +kernel) (by decide +kernel)
          have c1304 : I1295 a1 2 = v37 := (g1298.cell ta1 (by decide +kernel)).trans c1244
          have hO1305 : FrO 14 a1 T I0 I1295 := hO1245.st g1298 (by decide +kernel)
          rcases dj1301 with ⟨p1306, p1307, p1308, p1309, p1310, p1311, p1312, p1313, p1314, p1315, p1316, p1317, gl1318, -⟩ | ⟨p1319, p1320, p1321, p1322, p1323, -⟩ | ⟨p1324, p1325, p1326, p1327, p1328, p1329, -⟩
          · skip
            have hL1330 := hL1270.tr gl1318 (by decide +kernel)
            have hM1331 : NmM I1295 R0 L1297 a1 gQ := NmM.kpL hM1302 gl1318 hS1303.1 ta1 (by decide +kernel)
            obtain ⟨v1332, c1333⟩ : ∃ v, I1295 a0 13 = v := ⟨_, rfl⟩
            rw [c1333] at p1310
            rw [c1273] at p1310
            obtain ⟨v1334, c1335⟩ : ∃ v, I1295 a0 9 = v := ⟨_, rfl⟩
            have b1336 := iv15_9 hS1303.1 ta0 c1335
            rw [c1335] at p1311
            rw [c1335] at p1312
            obtain ⟨v1337, c1338⟩ : ∃ v, I1295 a0 10 = v := ⟨_, rfl⟩
            have b1339 := iv15_10 hS1303.1 ta0 c1338
            rw [c1338] at p1313
            obtain ⟨v1340, c1341⟩ : ∃ v, I1295 a0 11 = v := ⟨_, rfl⟩
            rw [c1341] at p1314
            obtain ⟨y1342, c1343⟩ : ∃ v, L1297 a0 15 = v := ⟨_, rfl⟩
            rw [c1343] at p1315
            obtain ⟨v1344, c1345⟩ : ∃ v, I1295 a0 12 = v := ⟨_, rfl⟩
            rw [c1345] at p1316
            obtain ⟨v1346, c1347⟩ : ∃ v, I1295 a0 8 = v := ⟨_, rfl⟩
            have b1348 := iv15_8 hS1303.1 ta0 c1347
            rw [c1347] at p1317
            replace hF := hF.neg (by exact om_10ed11b5 p1307)
            replace hP := hP.neg (by exact om_10ed11b5 p1307)
            replace hF := hF.neg (by exact om_4062d996 p32 w1217 h1290 h1292 h1294 p1308 p1309)
            replace hP := hP.neg (by exact om_4062d996 p32 w1217 h1290 h1292 h1294 p1308 p1309)
            refine tr_istore_n dX12_readEvent_57 (by decide) (by decide) ?_
            refine tr_iload_n dX12_readEvent_58 rfl ?_
            refine q_iconst dX12_readEvent_59 (by decide) ?_
            intro v1349 h1350
            refine q_icmp_ne 69 dX12_readEvent_60 (by decide) (fun h1351 => ?_) (fun h1351 => ?_)
            · skip
              refine tr_aload_n dX12_readEvent_69 rfl ?_
              refine tr_ldcwS dX12_readEvent_70 ld12_272 ?_
              refine tr_iload_n dX12_readEvent_73 rfl ?_
              refine q_iconst dX12_readEvent_74 (by decide) ?_
              intro v1352 h1353
              refine q_iaddE dX12_readEvent_75 (by intro j1 j2 j3 j4; exact om_5e7b6990 b31.2 b31.1 p32 w1217 h1290 h1292 h1294 p1306 p1308 p1309 h1353 j2) ?_
              intro v1354 h1355
              refine tr_aload_n dX12_readEvent_76 rfl ?_
              refine tr_getR dX12_readEvent_77 fl12_188 (kR15 hS1303.1 ta0) d2 ?_
              refine q_getI dX12_readEvent_80 fl12_192 (kR14 hS1303.1 ta1) ((hS1303.cell ta1 (by decide +kernel)).trans c30) ?_
              refine q_callVi hE (M' := mX12_readPart) (as := [_, _, _]) dX12_readEvent_83 lk12_249 inX12_readPart seX12_readPart myX12_readPart (by decide) ⟨by decide, by decide⟩ rfl (kR15 hS1303.1 ta0) (Nat.le_of_ble_eq_true rfl) rfl rfl (by decide) (by decide) (fk_X12_readPart hS1303.1 (gB) ((tkN gB (tkN gB (tkN gB gs)))) ta0 (by decide) (TxA.kp hT hS1303 ta0 rfl rfl rfl (by decide +kernel) (by decide +kernel)) (by (try rw [c1335]); first | done | with_reducible assumption | omega) (by (try rw [c1335]); first | done | with_reducible assumption | omega) (by (try rw [c1338]); first | done | with_reducible assumption | omega) (by (try rw [c1341]); first | done | with_reducible assumption | omega) (by (try rw [c1343]); first | done | assumption) (by (try rw [c1345]); first | done | assumption) (by (try rw [c1347]); first | done | assumption) (by (try rw [((hS1303.cell ta0 (by decide +kernel)).trans c26)]); first | done | with_reducible assumption | omega)) ?_
              rintro v1361 cn' K' N' I1356 R1357 L1358 ⟨rfl, rfl, rfl, rfl, g1359, dj1362, -⟩
              (try rw [pk_25] at dj1362)
              have hM1363 : NmM I1356 R0 L1297 a1 gQ := NmM.kpS hM1331 g1359 hS1303.1 ta1 (by decide +kernel) (by decide +kernel)
              have hS1364 := hS1303.tr g1359 (by decide +kernel) (by decide +kernel)
              have c1365 : I1356 a1 2 = v37 := (g1359.cell ta1 (by decide +kernel)).trans c1304
              have hO1366 : FrO 14 a1 T I0 I1356 := hO1305.st g1359 (by decide +kernel)
              rcases dj1362 with ⟨p1367, p1368, p1369, p1370, p1371, p1372, p1373, p1374, p1375, p1376, p1377, p1378, p1379, p1380, gl1381, -⟩ | ⟨p1382, p1383, p1384, p1385, p1386, -⟩ | ⟨p1387, p1388, p1389, p1390, p1391, p1392, p1393, -⟩ | ⟨p1394, p1395, p1396, p1397, p1398, p1399, p1400, p1401, -⟩
              · skip
                have hL1402 := hL1330.tr gl1381 (by decide +kernel)
                have hM1403 : NmM I1356 R0 L1358 a1 gQ := NmM.kpL hM1363 gl1381 hS1364.1 ta1 (by decide +kernel)
                obtain ⟨v1404, c1405⟩ : ∃ v, I1356 a0 13 = v := ⟨_, rfl⟩
                rw [c1405] at p1373
                rw [c1333] at p1373
                obtain ⟨v1406, c1407⟩ : ∃ v, I1356 a0 9 = v := ⟨_, rfl⟩
                have b1408 := iv15_9 hS1364.1 ta0 c1407
                rw [c1407] at p1374
                rw [c1407] at p1375
                obtain ⟨v1409, c1410⟩ : ∃ v, I1356 a0 10 = v := ⟨_, rfl⟩
                have b1411 := iv15_10 hS1364.1 ta0 c1410
                rw [c1410] at p1376
                obtain ⟨v1412, c1413⟩ : ∃ v, I1356 a0 11 = v := ⟨_, rfl⟩
                rw [c1413] at p1377
                obtain ⟨y1414, c1415⟩ : ∃ v, L1358 a0 15 = v := ⟨_, rfl⟩
                rw [c1415] at p1378
                obtain ⟨v1416, c1417⟩ : ∃ v, I1356 a0 12 = v := ⟨_, rfl⟩
                rw [c1417] at p1379
                obtain ⟨v1418, c1419⟩ : ∃ v, I1356 a0 8 = v := ⟨_, rfl⟩
                have b1420 := iv15_8 hS1364.1 ta0 c1419
                rw [c1419] at p1380
                replace hF := hF.neg (by exact om_04941ac6 p1368 p1369)
                replace hP := hP.neg (by exact om_04941ac6 p1368 p1369)
                replace hF := hF.neg (by exact om_10ed11b5 p1370)
                replace hP := hP.neg (by exact om_10ed11b5 p1370)
                replace hF := hF.neg (by exact om_11a1fbca p32 w1217 h1292 h1294 p1306 h1353 h1355 p1371 p1372)
                replace hP := hP.neg (by exact om_11a1fbca p32 w1217 h1292 h1294 p1306 h1353 h1355 p1371 p1372)
                refine tr_istore dX12_readEvent_86 (by decide) (by decide) ?_
                refine tr_aload_n dX12_readEvent_88 rfl ?_
                refine q_getI dX12_readEvent_89 fl12_99 (kR15 hS1364.1 ta0) c1407 ?_
                refine q_iconst dX12_readEvent_92 (by decide) ?_
                intro v1421 h1422
                refine q_icmp_ne 97 dX12_readEvent_93 (by decide) (fun h1423 => ?_) (fun h1423 => ?_)
                · skip
                  refine tr_aload_n dX12_readEvent_97 rfl ?_
                  refine tr_getR dX12_readEvent_98 fl12_188 (kR15 hS1364.1 ta0) d2 ?_
                  refine q_getI dX12_readEvent_101 fl12_265 (kR14 hS1364.1 ta1) c1365 ?_
                  refine tr_istore dX12_readEvent_104 (by decide) (by decide) ?_
                  refine tr_aload_n dX12_readEvent_106 rfl ?_
                  refine tr_getR dX12_readEvent_107 fl12_188 (kR15 hS1364.1 ta0) d2 ?_
                  refine tr_getR dX12_readEvent_110 fl12_274 (kR14 hS1364.1 ta1) d67 ?_
                  refine tr_iload dX12_readEvent_113 rfl ?_
                  refine tr_iload_n dX12_readEvent_115 rfl ?_
                  refine q_iastX dX12_readEvent_116 (kR54 hS1364.1 ta66) (ti_in (nR54 hS1364.1 ta66) (by exact om_b14f9e1e b39.2 b39.1 p40 w1219) (by exact om_a14b760a pre18 b31.2 b31.1 p32 b39.2 b39.1 p40 kd74 h1162 p1174 p1175 w1217 w1219 h1292 h1294 h1350 h1351 p1375 p1374 b1408.1 h1422 h1423)) hS1364 ta66 (by rfl) (hS1364.1.putK (m := a1) ta1 d67 (by rw [c1365]; exact Int.le_of_eq (ti_nat (by exact om_b14f9e1e b39.2 b39.1 p40 w1219)).symm)) ?_
                  intro I1428 hS1429 e1430 f1431
                  have c1432 : I1428 a1 2 = v37 := (f1431 _ _ (fun q => by have z := ta1; rw [q.1, ta66] at z; exact absurd z (by decide))).trans c1365
                  have c1433 : I1428 a0 13 = v1404 := (f1431 _ _ (fun q => by have z := ta0; rw [q.1, ta66] at z; exact absurd z (by decide))).trans c1405
                  have c1434 : I1428 a0 9 = v1406 := (f1431 _ _ (fun q => by have z := ta0; rw [q.1, ta66] at z; exact absurd z (by decide))).trans c1407
                  have c1435 : I1428 a0 10 = v1409 := (f1431 _ _ (fun q => by have z := ta0; rw [q.1, ta66] at z; exact absurd z (by decide))).trans c1410
                  have c1436 : I1428 a0 11 = v1412 := (f1431 _ _ (fun q => by have z := ta0; rw [q.1, ta66] at z; exact absurd z (by decide))).trans c1413
                  have c1437 : I1428 a0 12 = v1416 := (f1431 _ _ (fun q => by have z := ta0; rw [q.1, ta66] at z; exact absurd z (by decide))).trans c1417
                  have c1438 : I1428 a0 8 = v1418 := (f1431 _ _ (fun q => by have z := ta0; rw [q.1, ta66] at z; exact absurd z (by decide))).trans c1419
                  have hO1439 : FrO 14 a1 T I0 I1428 := hO1366.put f1431 ta66 (Or.inl (by decide))
                  have hM1440 : NmM I1428 R0 L1358 a1 gQ := NmM.kp1 hM1403 f1431 ta66 rfl rfl hS1364.1 ta1
                  refine tr_aload_n dX12_readEvent_117 rfl ?_
                  refine tr_getR dX12_readEvent_118 fl12_188 (kR15 hS1429.1 ta0) d2 ?_
                  refine tr_getR dX12_readEvent_121 fl12_277 (kR14 hS1429.1 ta1) d69 ?_
                  refine tr_iload dX12_readEvent_124 rfl ?_
                  refine tr_iload_n dX12_readEvent_126 rfl ?_
                  refine q_iastX dX12_readEvent_127 (kR55 hS1429.1 ta68) (ti_in (nR55 hS1429.1 ta68) (by exact om_b14f9e1e b39.2 b39.1 p40 w1219) (by exact om_a14b760a pre18 b31.2 b31.1 p32 b39.2 b39.1 p40 kd74 h1162 p1174 p1175 w1217 w1219 h1292 h1294 h1350 h1351 p1375 p1374 b1408.1 h1422 h1423)) hS1429 ta68 (by rfl) (hS1429.1.putH (m := a1) ta1 d69 (by rw [c1432]; exact Int.le_of_eq (ti_nat (by exact om_b14f9e1e b39.2 b39.1 p40 w1219)).symm) (by exact om_3e0e6c99 b35.2 b35.1 p36 w1218 h1230 h1232 h1234 p1246 p1248 p1249)) ?_
                  intro I1445 hS1446 e1447 f1448
                  have c1449 : I1445 a1 2 = v37 := (f1448 _ _ (fun q => by have z := ta1; rw [q.1, ta68] at z; exact absurd z (by decide))).trans c1432
                  have c1450 : I1445 a0 13 = v1404 := (f1448 _ _ (fun q => by have z := ta0; rw [q.1, ta68] at z; exact absurd z (by decide))).trans c1433
                  have c1451 : I1445 a0 9 = v1406 := (f1448 _ _ (fun q => by have z := ta0; rw [q.1, ta68] at z; exact absurd z (by decide))).trans c1434
                  have c1452 : I1445 a0 10 = v1409 := (f1448 _ _ (fun q => by have z := ta0; rw [q.1, ta68] at z; exact absurd z (by decide))).trans c1435
                  have c1453 : I1445 a0 11 = v1412 := (f1448 _ _ (fun q => by have z := ta0; rw [q.1, ta68] at z; exact absurd z (by decide))).trans c1436
                  have c1454 : I1445 a0 12 = v1416 := (f1448 _ _ (fun q => by have z := ta0; rw [q.1, ta68] at z; exact absurd z (by decide))).trans c1437
                  have c1455 : I1445 a0 8 = v1418 := (f1448 _ _ (fun q => by have z := ta0; rw [q.1, ta68] at z; exact absurd z (by decide))).trans c1438
                  have c1456 : I1445 a66 v37.toNatClampNeg = x1 := (f1448 _ _ (fun q => by have z := ta66; rw [q.1, ta68] at z; exact absurd z (by decide))).trans e1430
                  have hO1457 : FrO 14 a1 T I0 I1445 := hO1439.put f1448 ta68 (Or.inl (by decide))
                  have hM1458 : NmM I1445 R0 L1358 a1 gQ := NmM.kp1 hM1440 f1448 ta68 rfl rfl hS1429.1 ta1
                  refine tr_aload_n dX12_readEvent_128 rfl ?_
                  refine tr_getR dX12_readEvent_129 fl12_188 (kR15 hS1446.1 ta0) d2 ?_
                  refine tr_getR dX12_readEvent_132 fl12_280 (kR14 hS1446.1 ta1) d71 ?_
                  refine tr_iload dX12_readEvent_135 rfl ?_
                  refine tr_iload_n dX12_readEvent_137 rfl ?_
                  refine q_iast dX12_readEvent_138 (kR56 hS1446.1 ta70) (ti_in (nR56 hS1446.1 ta70) (by exact om_b14f9e1e b39.2 b39.1 p40 w1219) (by exact om_a14b760a pre18 b31.2 b31.1 p32 b39.2 b39.1 p40 kd74 h1162 p1174 p1175 w1217 w1219 h1292 h1294 h1350 h1351 p1375 p1374 b1408.1 h1422 h1423)) hS1446 ta70 (by show (0 : Int) ≤ v1300.toInt ∧ v1300.toInt ≤ (240 : Int); exact om_0f0d8164 b31.2 b31.1 p32 w1217 h1290 h1292 h1294 p1306 p1308 p1309 h1353 h1355) rfl (by rfl) ?_
                  intro I1459 hS1460 e1462 f1461
                  have c1463 : I1459 a1 2 = v37 := (f1461 _ _ (fun q => by have z := ta1; rw [q.1, ta70] at z; exact absurd z (by decide))).trans c1449
                  have c1464 : I1459 a0 13 = v1404 := (f1461 _ _ (fun q => by have z := ta0; rw [q.1, ta70] at z; exact absurd z (by decide))).trans c1450
                  have c1465 : I1459 a0 9 = v1406 := (f1461 _ _ (fun q => by have z := ta0; rw [q.1, ta70] at z; exact absurd z (by decide))).trans c1451
                  have c1466 : I1459 a0 10 = v1409 := (f1461 _ _ (fun q => by have z := ta0; rw [q.1, ta70] at z; exact absurd z (by decide))).trans c1452
                  have c1467 : I1459 a0 11 = v1412 := (f1461 _ _ (fun q => by have z := ta0; rw [q.1, ta70] at z; exact absurd z (by decide))).trans c1453
                  have c1468 : I1459 a0 12 = v1416 := (f1461 _ _ (fun q => by have z := ta0; rw [q.1, ta70] at z; exact absurd z (by decide))).trans c1454
                  have c1469 : I1459 a0 8 = v1418 := (f1461 _ _ (fun q => by have z := ta0; rw [q.1, ta70] at z; exact absurd z (by decide))).trans c1455
                  have c1470 : I1459 a66 v37.toNatClampNeg = x1 := (f1461 _ _ (fun q => by have z := ta66; rw [q.1, ta70] at z; exact absurd z (by decide))).trans c1456
                  have c1471 : I1459 a68 v37.toNatClampNeg = v1240 := (f1461 _ _ (fun q => by have z := ta68; rw [q.1, ta70] at z; exact absurd z (by decide))).trans e1447
                  have hO1472 : FrO 14 a1 T I0 I1459 := hO1457.put f1461 ta70 (Or.inl (by decide))
                  have hM1473 : NmM I1459 R0 L1358 a1 gQ := NmM.kp1 hM1458 f1461 ta70 rfl rfl hS1446.1 ta1
                  refine tr_aload_n dX12_readEvent_139 rfl ?_
                  refine tr_getR dX12_readEvent_140 fl12_188 (kR15 hS1460.1 ta0) d2 ?_
                  refine tr_getR dX12_readEvent_143 fl12_283 (kR14 hS1460.1 ta1) d73 ?_
                  refine tr_iload dX12_readEvent_146 rfl ?_
                  refine tr_iload dX12_readEvent_148 rfl ?_
                  refine q_iast dX12_readEvent_150 (kR57 hS1460.1 ta72) (ti_in (nR57 hS1460.1 ta72) (by exact om_b14f9e1e b39.2 b39.1 p40 w1219) (by exact om_a14b760a pre18 b31.2 b31.1 p32 b39.2 b39.1 p40 kd74 h1162 p1174 p1175 w1217 w1219 h1292 h1294 h1350 h1351 p1375 p1374 b1408.1 h1422 h1423)) hS1460 ta72 (by show (0 : Int) ≤ v1361.toInt ∧ v1361.toInt ≤ (240 : Int); exact om_6c1edee8 b31.2 b31.1 p32 w1217 h1290 h1292 h1294 p1306 p1308 h1353 h1355 p1367 p1371 p1372) rfl (by rfl) ?_
                  intro I1474 hS1475 e1477 f1476
                  have c1478 : I1474 a1 2 = v37 := (f1476 _ _ (fun q => by have z := ta1; rw [q.1, ta72] at z; exact absurd z (by decide))).trans c1463
                  have c1479 : I1474 a0 13 = v1404 := (f1476 _ _ (fun q => by have z := ta0; rw [q.1, ta72] at z; exact absurd z (by decide))).trans c1464
                  have c1480 : I1474 a0 9 = v1406 := (f1476 _ _ (fun q => by have z := ta0; rw [q.1, ta72] at z; exact absurd z (by decide))).trans c1465
                  have c1481 : I1474 a0 10 = v1409 := (f1476 _ _ (fun q => by have z := ta0; rw [q.1, ta72] at z; exact absurd z (by decide))).trans c1466
                  have c1482 : I1474 a0 11 = v1412 := (f1476 _ _ (fun q => by have z := ta0; rw [q.1, ta72] at z; exact absurd z (by decide))).trans c1467
                  have c1483 : I1474 a0 12 = v1416 := (f1476 _ _ (fun q => by have z := ta0; rw [q.1, ta72] at z; exact absurd z (by decide))).trans c1468
                  have c1484 : I1474 a0 8 = v1418 := (f1476 _ _ (fun q => by have z := ta0; rw [q.1, ta72] at z; exact absurd z (by decide))).trans c1469
                  have c1485 : I1474 a66 v37.toNatClampNeg = x1 := (f1476 _ _ (fun q => by have z := ta66; rw [q.1, ta72] at z; exact absurd z (by decide))).trans c1470
                  have c1486 : I1474 a68 v37.toNatClampNeg = v1240 := (f1476 _ _ (fun q => by have z := ta68; rw [q.1, ta72] at z; exact absurd z (by decide))).trans c1471
                  have hO1487 : FrO 14 a1 T I0 I1474 := hO1472.put f1476 ta72 (Or.inl (by decide))
                  have hM1488 : NmM I1474 R0 L1358 a1 gQ := NmM.kp1 hM1473 f1476 ta72 rfl rfl hS1460.1 ta1
                  refine tr_aload_n dX12_readEvent_151 rfl ?_
                  refine tr_getR dX12_readEvent_152 fl12_188 (kR15 hS1475.1 ta0) d2 ?_
                  refine tr_dup dX12_readEvent_155 rfl ?_
                  refine q_getI dX12_readEvent_156 fl12_265 (kR14 hS1475.1 ta1) c1478 ?_
                  refine q_iconst dX12_readEvent_159 (by decide) ?_
                  intro v1489 h1490
                  refine q_iaddE dX12_readEvent_160 (by intro j1 j2 j3 j4; exact om_a5745fee b39.2 b39.1 p40 w1219 h1490) ?_
                  intro v1491 h1492
                  refine q_putX dX12_readEvent_161 fl12_265 (kR14 hS1475.1 ta1) (Or.inl rfl) hS1475 ta1 (by decide +kernel) (hS1475.1.putE (i := v37.toNatClampNeg) ta1 d67 d69 (by rw [c1478]; exact (ti_nat (by exact om_74bf4760 b39.2 b39.1 p40 w1219 h1490 h1492)).symm) (by rw [c1478]; exact om_5a680f8c p40 w1219 h1490 h1492) (by exact om_07899a5e pre18 b31.2 b31.1 p32 b39.2 b39.1 p40 kd74 h1162 p1174 p1175 w1217 w1219 h1292 h1294 h1350 h1351 p1375 p1374 b1408.1 h1422 h1423 h1490 h1492) (by rw [c1485, c1486]; exact om_30d49bde h1230 p1246 p1248)) ?_
                  intro I1493 hS1494 e1495 f1496
                  have c1497 : I1493 a0 13 = v1404 := (f1496 _ _ (fun q => absurd q.2 (by decide))).trans c1479
                  have c1498 : I1493 a0 9 = v1406 := (f1496 _ _ (fun q => absurd q.2 (by decide))).trans c1480
                  have c1499 : I1493 a0 10 = v1409 := (f1496 _ _ (fun q => absurd q.2 (by decide))).trans c1481
                  have c1500 : I1493 a0 11 = v1412 := (f1496 _ _ (fun q => absurd q.2 (by decide))).trans c1482
                  have c1501 : I1493 a0 12 = v1416 := (f1496 _ _ (fun q => absurd q.2 (by decide))).trans c1483
                  have c1502 : I1493 a0 8 = v1418 := (f1496 _ _ (fun q => absurd q.2 (by decide))).trans c1484
                  have c1503 : I1493 a66 v37.toNatClampNeg = x1 := (f1496 _ _ (fun q => by have z := ta66; rw [q.1, ta1] at z; exact absurd z (by decide))).trans c1485
                  have c1504 : I1493 a68 v37.toNatClampNeg = v1240 := (f1496 _ _ (fun q => by have z := ta68; rw [q.1, ta1] at z; exact absurd z (by decide))).trans c1486
                  have hO1505 : FrO 14 a1 T I0 I1493 := hO1487.put f1496 ta1 (Or.inr rfl)
                  have hM1506 : NmM I1493 R0 L1358 a1 gQ := NmM.kp1 hM1488 f1496 ta1 rfl rfl hS1475.1 ta1
                  have eF := hF.eq
                  have eP := hP.eq
                  have es1507 := evS_c2 (B := gB) (Q := gQ) (k := srt gB gs) (s := (tkN gB gs)) (by exact om_3c04cefc pre18 kd74)
                  obtain ⟨v1508, c1509⟩ : ∃ v, I1493 a0 14 = v := ⟨_, rfl⟩
                  exact tr_vret hZ dX12_readEvent_164 rfl (by decide) (by decide) ⟨rfl, rfl, rfl, rfl, rfl, hS1494, (fun b hb => (Option.some.inj (d2.symm.trans hb)) ▸ ((((((((((FrM.rf (R := R0) (b := a1) (T := T)).st g1166 (by decide +kernel)).st g1238 (by decide +kernel)).st g1298 (by decide +kernel)).st g1359 (by decide +kernel)).pu f1431 (by decide) (by decide) d67).pu f1448 (by decide) (by decide) d69).pu f1461 (by decide) (by decide) d71).pu f1476 (by decide) (by decide) d73).put f1496 ta1 (by decide))), (fun dr hd => (Option.some.inj (d2.symm.trans hd)) ▸ hO1505), (Or.inl ⟨(by (try rw [w1216]); (try rw [es1507]); first | done | with_reducible assumption | omega), (fun q0 z0 => by obtain rfl := Option.some.inj ((d2).symm.trans z0); (try rw [w1216]); (try rw [es1507]); (try rw [((hS1494.cell ta1 (by decide +kernel)).trans c30)]); first | done | with_reducible assumption | exact om_2757374c p32 w1217), (fun q0 z0 => by obtain rfl := Option.some.inj ((d2).symm.trans z0); (try rw [w1216]); (try rw [es1507]); (try rw [((hS1494.cell ta1 (by decide +kernel)).trans c34)]); first | done | with_reducible assumption | exact om_2757374c p36 w1218), (fun q0 z0 => by obtain rfl := Option.some.inj ((d2).symm.trans z0); (try rw [w1216]); (try rw [es1507]); (try rw [e1495]); first | done | with_reducible assumption | exact om_7149e5be p40 w1219 h1490 h1492), (fun q0 z0 => by obtain rfl := Option.some.inj ((d2).symm.trans z0); (try rw [w1216]); (try rw [es1507]); (try rw [((hS1494.cell ta1 (by decide +kernel)).trans c42)]); first | done | with_reducible assumption | exact om_2757374c p44 w1220), (fun q0 z0 => by obtain rfl := Option.some.inj ((d2).symm.trans z0); (try rw [w1216]); (try rw [es1507]); (try rw [((hS1494.cell ta1 (by decide +kernel)).trans c46)]); first | done | with_reducible assumption | exact om_2757374c p48 w1221), (fun q0 z0 => by obtain rfl := Option.some.inj ((d2).symm.trans z0); (try rw [w1216]); (try rw [es1507]); (try rw [((hS1494.cell ta1 (by decide +kernel)).trans c50)]); first | done | with_reducible assumption | exact om_2757374c p52 w1222), (fun q0 z0 => by obtain rfl := Option.some.inj ((d2).symm.trans z0); (try rw [w1216]); (try rw [es1507]); (try rw [((hS1494.cell ta1 (by decide +kernel)).trans c54)]); first | done | with_reducible assumption | exact om_2757374c p56 w1223), (fun q0 z0 => by obtain rfl := Option.some.inj ((d2).symm.trans z0); (try rw [w1216]); (try rw [es1507]); (try rw [((hS1494.cell ta1 (by decide +kernel)).trans c58)]); first | done | with_reducible assumption | exact om_2757374c p60 w1225), (by (try rw [w1216]); (try rw [es1507]); (try rw [c1497]); (try rw [c65]); first | done | with_reducible assumption | exact om_751d021b p1176 p1250 p1310 p1373), (by (try rw [w1216]); (try rw [es1507]); (try rw [c1498]); first | done | with_reducible assumption | omega), (by (try rw [w1216]); (try rw [es1507]); (try rw [c1498]); first | done | with_reducible assumption | omega), (by (try rw [w1216]); (try rw [es1507]); (try rw [c1499]); first | done | with_reducible assumption | omega), (by (try rw [w1216]); (try rw [es1507]); (try rw [c1500]); first | done | with_reducible assumption | omega), (by (try rw [w1216]); (try rw [es1507]); (try rw [c1415]); first | done | assumption), (by (try rw [w1216]); (try rw [es1507]); (try rw [c1501]); first | done | assumption), (by (try rw [w1216]); (try rw [es1507]); (try rw [c1502]); first | done | assumption), hL1402, (fun b hb => (Option.some.inj (d2.symm.trans hb)) ▸ NmM.ln (NmM.bd (k := srt gB gs) hM1506 (by exact om_1345a5e6 pre18 kd74) (by exact om_05376095 pre18 kd74)) rfl), (fun E b hb hE => by obtain rfl := Option.some.inj (d2.symm.trans hb); exact AlM.ev hE hW0 ta1 (by exact om_52b49796 pre18 kd74) (by exact om_da85ae01 pre18 kd74) (by exact om_145f2c8e b39.2 b39.1 p40 w1219 h1490 h1492) (by exact om_9a7f5d50 pre18 b31.2 b31.1 p32 b39.2 b39.1 p40 kd74 h1162 p1174 p1175 w1217 w1219 h1292 h1294 h1350 h1351 p1375 p1374 b1408.1 h1422 h1423 h1490 h1492) (hS1494.cell ta1 (by decide +kernel)) (RoF.st (ex := xr 54 57) hS1494 (by decide +kernel)) (fun f hf => match f, hf with | 0, _ => (fun a ha => by obtain rfl := Option.some.inj (d67.symm.trans ha); have zi : v37.toNatClampNeg = (gQ 2).toNat := congrArg Int.toNat (by exact om_acd7a85a p40); have ze := (Eq.trans ((f1496 _ _ (fun q => by have z := ta66; rw [q.1, ta1] at z; exact absurd z (by decide))).trans ((f1476 _ _ (fun q => by have z := ta66; rw [q.1, ta72] at z; exact absurd z (by decide))).trans ((f1461 _ _ (fun q => by have z := ta66; rw [q.1, ta70] at z; exact absurd z (by decide))).trans (f1448 _ _ (fun q => by have z := ta66; rw [q.1, ta68] at z; exact absurd z (by decide)))))) e1430); rw [zi] at ze; exact ⟨by rw [ze]; exact om_744a20de pre18, fun j hj => ((f1496 _ _ (fun q => by have z := ta66; rw [q.1, ta1] at z; exact absurd z (by decide))).trans ((f1476 _ _ (fun q => by have z := ta66; rw [q.1, ta72] at z; exact absurd z (by decide))).trans ((f1461 _ _ (fun q => by have z := ta66; rw [q.1, ta70] at z; exact absurd z (by decide))).trans ((f1448 _ _ (fun q => by have z := ta66; rw [q.1, ta68] at z; exact absurd z (by decide))).trans ((f1431 _ _ (fun q => hj (q.2.trans zi))).trans ((g1359.cell ta66 (wm_no (by decide +kernel))).trans ((g1298.cell ta66 (wm_no (by decide +kernel))).trans ((g1238.cell ta66 (wm_no (by decide +kernel))).trans (g1166.cell ta66 (wm_no (by decide +kernel)))))))))))⟩) | 1, _ => (fun a ha => by obtain rfl := Option.some.inj (d69.symm.trans ha); have zi : v37.toNatClampNeg = (gQ 2).toNat := congrArg Int.toNat (by exact om_acd7a85a p40); have ze := (Eq.trans ((f1496 _ _ (fun q => by have z := ta68; rw [q.1, ta1] at z; exact absurd z (by decide))).trans ((f1476 _ _ (fun q => by have z := ta68; rw [q.1, ta72] at z; exact absurd z (by decide))).trans (f1461 _ _ (fun q => by have z := ta68; rw [q.1, ta70] at z; exact absurd z (by decide))))) e1447); rw [zi] at ze; exact ⟨by rw [ze]; exact om_ba94720a pre18 kd74 h1230 p1246 p1248, fun j hj => ((f1496 _ _ (fun q => by have z := ta68; rw [q.1, ta1] at z; exact absurd z (by decide))).trans ((f1476 _ _ (fun q => by have z := ta68; rw [q.1, ta72] at z; exact absurd z (by decide))).trans ((f1461 _ _ (fun q => by have z := ta68; rw [q.1, ta70] at z; exact absurd z (by decide))).trans ((f1448 _ _ (fun q => hj (q.2.trans zi))).trans ((f1431 _ _ (fun q => by have z := ta68; rw [q.1, ta66] at z; exact absurd z (by decide))).trans ((g1359.cell ta68 (wm_no (by decide +kernel))).trans ((g1298.cell ta68 (wm_no (by decide +kernel))).trans ((g1238.cell ta68 (wm_no (by decide +kernel))).trans (g1166.cell ta68 (wm_no (by decide +kernel)))))))))))⟩) | 2, _ => (fun a ha => by obtain rfl := Option.some.inj (d71.symm.trans ha); have zi : v37.toNatClampNeg = (gQ 2).toNat := congrArg Int.toNat (by exact om_acd7a85a p40); have ze := (Eq.trans ((f1496 _ _ (fun q => by have z := ta70; rw [q.1, ta1] at z; exact absurd z (by decide))).trans (f1476 _ _ (fun q => by have z := ta70; rw [q.1, ta72] at z; exact absurd z (by decide)))) e1462); rw [zi] at ze; exact ⟨by rw [ze]; exact om_6ba997a9 pre18 kd74 p1306, fun j hj => ((f1496 _ _ (fun q => by have z := ta70; rw [q.1, ta1] at z; exact absurd z (by decide))).trans ((f1476 _ _ (fun q => by have z := ta70; rw [q.1, ta72] at z; exact absurd z (by decide))).trans ((f1461 _ _ (fun q => hj (q.2.trans zi))).trans ((f1448 _ _ (fun q => by have z := ta70; rw [q.1, ta68] at z; exact absurd z (by decide))).trans ((f1431 _ _ (fun q => by have z := ta70; rw [q.1, ta66] at z; exact absurd z (by decide))).trans ((g1359.cell ta70 (wm_no (by decide +kernel))).trans ((g1298.cell ta70 (wm_no (by decide +kernel))).trans ((g1238.cell ta70 (wm_no (by decide +kernel))).trans (g1166.cell ta70 (wm_no (by decide +kernel)))))))))))⟩) | 3, _ => (fun a ha => by obtain rfl := Option.some.inj (d73.symm.trans ha); have zi : v37.toNatClampNeg = (gQ 2).toNat := congrArg Int.toNat (by exact om_acd7a85a p40); have ze := (Eq.trans (f1496 _ _ (fun q => by have z := ta72; rw [q.1, ta1] at z; exact absurd z (by decide))) e1477); rw [zi] at ze; exact ⟨by rw [ze]; exact om_794d6aed pre18 kd74 p1367, fun j hj => ((f1496 _ _ (fun q => by have z := ta72; rw [q.1, ta1] at z; exact absurd z (by decide))).trans ((f1476 _ _ (fun q => hj (q.2.trans zi))).trans ((f1461 _ _ (fun q => by have z := ta72; rw [q.1, ta70] at z; exact absurd z (by decide))).trans ((f1448 _ _ (fun q => by have z := ta72; rw [q.1, ta68] at z; exact absurd z (by decide))).trans ((f1431 _ _ (fun q => by have z := ta72; rw [q.1, ta66] at z; exact absurd z (by decide))).trans ((g1359.cell ta72 (wm_no (by decide +kernel))).trans ((g1298.cell ta72 (wm_no (by decide +kernel))).trans ((g1238.cell ta72 (wm_no (by decide +kernel))).trans (g1166.cell ta72 (wm_no (by decide +kernel)))))))))))⟩) | f + 4, h => absurd h (by exact om_551ec4b1 h))), trivial⟩), trivial⟩
                · skip
                  exfalso; exact om_99cda0b7 p1375 p1374 b1408.1 h1422 h1423
              · skip
                obtain ⟨v1510, c1511⟩ : ∃ v, I1356 a0 9 = v := ⟨_, rfl⟩
                have b1512 := iv15_9 hS1364.1 ta0 c1511
                rw [c1511] at p1384
                obtain ⟨v1513, c1514⟩ : ∃ v, I1356 a0 13 = v := ⟨_, rfl⟩
                rw [c1514] at p1385
                obtain ⟨v1515, c1516⟩ : ∃ v, I1356 a0 14 = v := ⟨_, rfl⟩
                rw [c1516] at p1386
                replace hF := hF.pos (by exact om_5c733ef2 p1383)
                replace hP := hP.pos (by exact om_5c733ef2 p1383)
                refine tr_istore dX12_readEvent_86 (by decide) (by decide) ?_
                refine sf_oE88 hE hZ hS1364.1 (gB) ta0 (by (try rw [c1511]); first | done | with_reducible assumption | omega) ⟨_, d2⟩ rfl rfl rfl rfl rfl ?_
                rintro I1517 R1518 L1519 ⟨g1520, p1521, p1522, p1523, rp1524, -⟩
                obtain rfl : R0 = R1518 := funext fun a => funext fun j => (g1520.2.2 a j (wm_no rfl)).symm
                have hS1525 := hS1364.tr g1520 (by decide +kernel) (by decide +kernel)
                have c1526 : I1517 a1 2 = v37 := (g1520.cell ta1 (by decide +kernel)).trans c1365
                have c1527 : I1517 a0 9 = v1510 := (g1520.cell ta0 (by decide +kernel)).trans c1511
                have c1528 : I1517 a0 13 = v1513 := (g1520.cell ta0 (by decide +kernel)).trans c1514
                have c1529 : I1517 a0 14 = v1515 := (g1520.cell ta0 (by decide +kernel)).trans c1516
                have hO1530 : FrO 14 a1 T I0 I1517 := hO1366.st g1520 (by decide +kernel)
                rw [c1527] at p1521
                rw [c1528] at p1522
                rw [c1514] at p1522
                rw [c1529] at p1523
                rw [c1516] at p1523
                have eF := hF.eq
                have eP := hP.eq
                obtain ⟨v1531, c1532⟩ : ∃ v, I1517 a0 10 = v := ⟨_, rfl⟩
                have b1533 := iv15_10 hS1525.1 ta0 c1532
                obtain ⟨v1534, c1535⟩ : ∃ v, I1517 a0 11 = v := ⟨_, rfl⟩
                obtain ⟨y1536, c1537⟩ : ∃ v, L1519 a0 15 = v := ⟨_, rfl⟩
                obtain ⟨v1538, c1539⟩ : ∃ v, I1517 a0 12 = v := ⟨_, rfl⟩
                obtain ⟨v1540, c1541⟩ : ∃ v, I1517 a0 8 = v := ⟨_, rfl⟩
                have b1542 := iv15_8 hS1525.1 ta0 c1541
                exact ⟨rfl, rfl, rfl, rfl, rfl, hS1525, (fun b hb => (Option.some.inj (d2.symm.trans hb)) ▸ ((((((FrM.rf (R := R0) (b := a1) (T := T)).st g1166 (by decide +kernel)).st g1238 (by decide +kernel)).st g1298 (by decide +kernel)).st g1359 (by decide +kernel)).st g1520 (by decide +kernel))), (fun dr hd => (Option.some.inj (d2.symm.trans hd)) ▸ hO1530), (Or.inr (⟨(by first | done | with_reducible assumption | exact om_7fac24c5 eF), (by (try rw [c1527]); first | done | with_reducible assumption | omega), (by (try rw [c1528]); first | done | with_reducible assumption | exact om_3345b898 p1385 eF), (by (try rw [c1529]); first | done | with_reducible assumption | exact om_2757374c p1386 eP), trivial⟩)), trivial⟩
              · skip
                obtain ⟨v1543, c1544⟩ : ∃ v, I1356 a0 9 = v := ⟨_, rfl⟩
                have b1545 := iv15_9 hS1364.1 ta0 c1544
                rw [c1544] at p1391
                obtain ⟨v1546, c1547⟩ : ∃ v, I1356 a0 13 = v := ⟨_, rfl⟩
                rw [c1547] at p1392
                obtain ⟨v1548, c1549⟩ : ∃ v, I1356 a0 14 = v := ⟨_, rfl⟩
                rw [c1549] at p1393
                replace hF := hF.neg (by exact om_04941ac6 p1388 p1389)
                replace hP := hP.neg (by exact om_04941ac6 p1388 p1389)
                replace hF := hF.pos (by exact om_73cc8e29 p1390)
                replace hP := hP.pos (by exact om_73cc8e29 p1390)
                refine tr_istore dX12_readEvent_86 (by decide) (by decide) ?_
                refine sf_oE88 hE hZ hS1364.1 (gB) ta0 (by (try rw [c1544]); first | done | with_reducible assumption | omega) ⟨_, d2⟩ rfl rfl rfl rfl rfl ?_
                rintro I1550 R1551 L1552 ⟨g1553, p1554, p1555, p1556, rp1557, -⟩
                obtain rfl : R0 = R1551 := funext fun a => funext fun j => (g1553.2.2 a j (wm_no rfl)).symm
                have hS1558 := hS1364.tr g1553 (by decide +kernel) (by decide +kernel)
                have c1559 : I1550 a1 2 = v37 := (g1553.cell ta1 (by decide +kernel)).trans c1365
                have c1560 : I1550 a0 9 = v1543 := (g1553.cell ta0 (by decide +kernel)).trans c1544
                have c1561 : I1550 a0 13 = v1546 := (g1553.cell ta0 (by decide +kernel)).trans c1547
                have c1562 : I1550 a0 14 = v1548 := (g1553.cell ta0 (by decide +kernel)).trans c1549
                have hO1563 : FrO 14 a1 T I0 I1550 := hO1366.st g1553 (by decide +kernel)
                rw [c1560] at p1554
                rw [c1561] at p1555
                rw [c1547] at p1555
                rw [c1562] at p1556
                rw [c1549] at p1556
                have eF := hF.eq
                have eP := hP.eq
                obtain ⟨v1564, c1565⟩ : ∃ v, I1550 a0 10 = v := ⟨_, rfl⟩
                have b1566 := iv15_10 hS1558.1 ta0 c1565
                obtain ⟨v1567, c1568⟩ : ∃ v, I1550 a0 11 = v := ⟨_, rfl⟩
                obtain ⟨y1569, c1570⟩ : ∃ v, L1552 a0 15 = v := ⟨_, rfl⟩
                obtain ⟨v1571, c1572⟩ : ∃ v, I1550 a0 12 = v := ⟨_, rfl⟩
                obtain ⟨v1573, c1574⟩ : ∃ v, I1550 a0 8 = v := ⟨_, rfl⟩
                have b1575 := iv15_8 hS1558.1 ta0 c1574
                exact ⟨rfl, rfl, rfl, rfl, rfl, hS1558, (fun b hb => (Option.some.inj (d2.symm.trans hb)) ▸ ((((((FrM.rf (R := R0) (b := a1) (T := T)).st g1166 (by decide +kernel)).st g1238 (by decide +kernel)).st g1298 (by decide +kernel)).st g1359 (by decide +kernel)).st g1553 (by decide +kernel))), (fun dr hd => (Option.some.inj (d2.symm.trans hd)) ▸ hO1563), (Or.inr (⟨(by first | done | with_reducible assumption | exact om_7fac24c5 eF), (by (try rw [c1560]); first | done | with_reducible assumption | omega), (by (try rw [c1561]); first | done | with_reducible assumption | exact om_3345b898 p1392 eF), (by (try rw [c1562]); first | done | with_reducible assumption | exact om_2757374c p1393 eP), trivial⟩)), trivial⟩
              · skip
                obtain ⟨v1576, c1577⟩ : ∃ v, I1356 a0 9 = v := ⟨_, rfl⟩
                have b1578 := iv15_9 hS1364.1 ta0 c1577
                rw [c1577] at p1399
                obtain ⟨v1579, c1580⟩ : ∃ v, I1356 a0 13 = v := ⟨_, rfl⟩
                rw [c1580] at p1400
                obtain ⟨v1581, c1582⟩ : ∃ v, I1356 a0 14 = v := ⟨_, rfl⟩
                rw [c1582] at p1401
                replace hF := hF.neg (by exact om_04941ac6 p1395 p1396)
                replace hP := hP.neg (by exact om_04941ac6 p1395 p1396)
                replace hF := hF.neg (by exact om_10ed11b5 p1397)
                replace hP := hP.neg (by exact om_10ed11b5 p1397)
                replace hF := hF.pos (by exact om_ecc016f6 p32 w1217 h1292 h1294 p1306 h1353 h1355 p1398)
                replace hP := hP.pos (by exact om_ecc016f6 p32 w1217 h1292 h1294 p1306 h1353 h1355 p1398)
                refine tr_istore dX12_readEvent_86 (by decide) (by decide) ?_
                refine sf_oE88 hE hZ hS1364.1 (gB) ta0 (by (try rw [c1577]); first | done | with_reducible assumption | omega) ⟨_, d2⟩ rfl rfl rfl rfl rfl ?_
                rintro I1583 R1584 L1585 ⟨g1586, p1587, p1588, p1589, rp1590, -⟩
                obtain rfl : R0 = R1584 := funext fun a => funext fun j => (g1586.2.2 a j (wm_no rfl)).symm
                have hS1591 := hS1364.tr g1586 (by decide +kernel) (by decide +kernel)
                have c1592 : I1583 a1 2 = v37 := (g1586.cell ta1 (by decide +kernel)).trans c1365
                have c1593 : I1583 a0 9 = v1576 := (g1586.cell ta0 (by decide +kernel)).trans c1577
                have c1594 : I1583 a0 13 = v1579 := (g1586.cell ta0 (by decide +kernel)).trans c1580
                have c1595 : I1583 a0 14 = v1581 := (g1586.cell ta0 (by decide +kernel)).trans c1582
                have hO1596 : FrO 14 a1 T I0 I1583 := hO1366.st g1586 (by decide +kernel)
                rw [c1593] at p1587
                rw [c1594] at p1588
                rw [c1580] at p1588
                rw [c1595] at p1589
                rw [c1582] at p1589
                have eF := hF.eq
                have eP := hP.eq
                obtain ⟨v1597, c1598⟩ : ∃ v, I1583 a0 10 = v := ⟨_, rfl⟩
                have b1599 := iv15_10 hS1591.1 ta0 c1598
                obtain ⟨v1600, c1601⟩ : ∃ v, I1583 a0 11 = v := ⟨_, rfl⟩
                obtain ⟨y1602, c1603⟩ : ∃ v, L1585 a0 15 = v := ⟨_, rfl⟩
                obtain ⟨v1604, c1605⟩ : ∃ v, I1583 a0 12 = v := ⟨_, rfl⟩
                obtain ⟨v1606, c1607⟩ : ∃ v, I1583 a0 8 = v := ⟨_, rfl⟩
                have b1608 := iv15_8 hS1591.1 ta0 c1607
                exact ⟨rfl, rfl, rfl, rfl, rfl, hS1591, (fun b hb => (Option.some.inj (d2.symm.trans hb)) ▸ ((((((FrM.rf (R := R0) (b := a1) (T := T)).st g1166 (by decide +kernel)).st g1238 (by decide +kernel)).st g1298 (by decide +kernel)).st g1359 (by decide +kernel)).st g1586 (by decide +kernel))), (fun dr hd => (Option.some.inj (d2.symm.trans hd)) ▸ hO1596), (Or.inr (⟨(by first | done | with_reducible assumption | exact om_7b84bd42 eF), (by (try rw [c1593]); first | done | with_reducible assumption | omega), (by (try rw [c1594]); first | done | with_reducible assumption | exact om_46d5da87 p1400 eF), (by (try rw [c1595]); first | done | with_reducible assumption | exact om_2757374c p1401 eP), trivial⟩)), trivial⟩
            · skip
              exfalso; exact om_be33a1ce pre18 kd74 h1350 h1351
          · skip
            obtain ⟨v1609, c1610⟩ : ∃ v, I1295 a0 9 = v := ⟨_, rfl⟩
            have b1611 := iv15_9 hS1303.1 ta0 c1610
            rw [c1610] at p1321
            obtain ⟨v1612, c1613⟩ : ∃ v, I1295 a0 13 = v := ⟨_, rfl⟩
            rw [c1613] at p1322
            obtain ⟨v1614, c1615⟩ : ∃ v, I1295 a0 14 = v := ⟨_, rfl⟩
            rw [c1615] at p1323
            replace hF := hF.pos (by exact om_73cc8e29 p1320)
            replace hP := hP.pos (by exact om_73cc8e29 p1320)
            refine tr_istore_n dX12_readEvent_57 (by decide) (by decide) ?_
            refine sf_oE58 hE hZ hS1303.1 (gB) ta0 (by (try rw [c1610]); first | done | with_reducible assumption | omega) ⟨_, d2⟩ rfl rfl rfl rfl ?_
            rintro I1616 R1617 L1618 ⟨g1619, p1620, p1621, p1622, rp1623, -⟩
            obtain rfl : R0 = R1617 := funext fun a => funext fun j => (g1619.2.2 a j (wm_no rfl)).symm
            have hS1624 := hS1303.tr g1619 (by decide +kernel) (by decide +kernel)
            have c1625 : I1616 a1 2 = v37 := (g1619.cell ta1 (by decide +kernel)).trans c1304
            have hO1626 : FrO 14 a1 T I0 I1616 := hO1305.st g1619 (by decide +kernel)
            obtain ⟨v1627, c1628⟩ : ∃ v, I1616 a0 9 = v := ⟨_, rfl⟩
            have b1629 := iv15_9 hS1624.1 ta0 c1628
            rw [c1628] at p1620
            obtain ⟨v1630, c1631⟩ : ∃ v, I1616 a0 13 = v := ⟨_, rfl⟩
            rw [c1631] at p1621
            rw [c1613] at p1621
            obtain ⟨v1632, c1633⟩ : ∃ v, I1616 a0 14 = v := ⟨_, rfl⟩
            rw [c1633] at p1622
            rw [c1615] at p1622
            have eF := hF.eq
            have eP := hP.eq
            obtain ⟨v1634, c1635⟩ : ∃ v, I1616 a0 10 = v := ⟨_, rfl⟩
            have b1636 := iv15_10 hS1624.1 ta0 c1635
            obtain ⟨v1637, c1638⟩ : ∃ v, I1616 a0 11 = v := ⟨_, rfl⟩
            obtain ⟨y1639, c1640⟩ : ∃ v, L1618 a0 15 = v := ⟨_, rfl⟩
            obtain ⟨v1641, c1642⟩ : ∃ v, I1616 a0 12 = v := ⟨_, rfl⟩
            obtain ⟨v1643, c1644⟩ : ∃ v, I1616 a0 8 = v := ⟨_, rfl⟩
            have b1645 := iv15_8 hS1624.1 ta0 c1644
            exact ⟨rfl, rfl, rfl, rfl, rfl, hS1624, (fun b hb => (Option.some.inj (d2.symm.trans hb)) ▸ (((((FrM.rf (R := R0) (b := a1) (T := T)).st g1166 (by decide +kernel)).st g1238 (by decide +kernel)).st g1298 (by decide +kernel)).st g1619 (by decide +kernel))), (fun dr hd => (Option.some.inj (d2.symm.trans hd)) ▸ hO1626), (Or.inr (⟨(by first | done | with_reducible assumption | exact om_7fac24c5 eF), (by (try rw [c1628]); first | done | with_reducible assumption | omega), (by (try rw [c1631]); first | done | with_reducible assumption | exact om_9adad658 p1322 p1621 eF), (by (try rw [c1633]); first | done | with_reducible assumption | exact om_3998a42e p1323 p1622 eP), trivial⟩)), trivial⟩
          · skip
            obtain ⟨v1646, c1647⟩ : ∃ v, I1295 a0 9 = v := ⟨_, rfl⟩
            have b1648 := iv15_9 hS1303.1 ta0 c1647
            rw [c1647] at p1327
            obtain ⟨v1649, c1650⟩ : ∃ v, I1295 a0 13 = v := ⟨_, rfl⟩
            rw [c1650] at p1328
            obtain ⟨v1651, c1652⟩ : ∃ v, I1295 a0 14 = v := ⟨_, rfl⟩
            rw [c1652] at p1329
            replace hF := hF.neg (by exact om_10ed11b5 p1325)
            replace hP := hP.neg (by exact om_10ed11b5 p1325)
            replace hF := hF.pos (by exact om_41eb13e5 p32 w1217 h1290 h1292 h1294 p1326)
            replace hP := hP.pos (by exact om_41eb13e5 p32 w1217 h1290 h1292 h1294 p1326)
            refine tr_istore_n dX12_readEvent_57 (by decide) (by decide) ?_
            refine sf_oE58 hE hZ hS1303.1 (gB) ta0 (by (try rw [c1647]); first | done | with_reducible assumption | omega) ⟨_, d2⟩ rfl rfl rfl rfl ?_
            rintro I1653 R1654 L1655 ⟨g1656, p1657, p1658, p1659, rp1660, -⟩
            obtain rfl : R0 = R1654 := funext fun a => funext fun j => (g1656.2.2 a j (wm_no rfl)).symm
            have hS1661 := hS1303.tr g1656 (by decide +kernel) (by decide +kernel)
            have c1662 : I1653 a1 2 = v37 := (g1656.cell ta1 (by decide +kernel)).trans c1304
            have hO1663 : FrO 14 a1 T I0 I1653 := hO1305.st g1656 (by decide +kernel)
            obtain ⟨v1664, c1665⟩ : ∃ v, I1653 a0 9 = v := ⟨_, rfl⟩
            have b1666 := iv15_9 hS1661.1 ta0 c1665
            rw [c1665] at p1657
            obtain ⟨v1667, c1668⟩ : ∃ v, I1653 a0 13 = v := ⟨_, rfl⟩
            rw [c1668] at p1658
            rw [c1650] at p1658
            obtain ⟨v1669, c1670⟩ : ∃ v, I1653 a0 14 = v := ⟨_, rfl⟩
            rw [c1670] at p1659
            rw [c1652] at p1659
            have eF := hF.eq
            have eP := hP.eq
            obtain ⟨v1671, c1672⟩ : ∃ v, I1653 a0 10 = v := ⟨_, rfl⟩
            have b1673 := iv15_10 hS1661.1 ta0 c1672
            obtain ⟨v1674, c1675⟩ : ∃ v, I1653 a0 11 = v := ⟨_, rfl⟩
            obtain ⟨y1676, c1677⟩ : ∃ v, L1655 a0 15 = v := ⟨_, rfl⟩
            obtain ⟨v1678, c1679⟩ : ∃ v, I1653 a0 12 = v := ⟨_, rfl⟩
            obtain ⟨v1680, c1681⟩ : ∃ v, I1653 a0 8 = v := ⟨_, rfl⟩
            have b1682 := iv15_8 hS1661.1 ta0 c1681
            exact ⟨rfl, rfl, rfl, rfl, rfl, hS1661, (fun b hb => (Option.some.inj (d2.symm.trans hb)) ▸ (((((FrM.rf (R := R0) (b := a1) (T := T)).st g1166 (by decide +kernel)).st g1238 (by decide +kernel)).st g1298 (by decide +kernel)).st g1656 (by decide +kernel))), (fun dr hd => (Option.some.inj (d2.symm.trans hd)) ▸ hO1663), (Or.inr (⟨(by first | done | with_reducible assumption | exact om_7b84bd42 eF), (by (try rw [c1665]); first | done | with_reducible assumption | omega), (by (try rw [c1668]); first | done | with_reducible assumption | exact om_4510ffdb p1328 p1658 eF), (by (try rw [c1670]); first | done | with_reducible assumption | exact om_3998a42e p1329 p1659 eP), trivial⟩)), trivial⟩
        · skip
          obtain ⟨v1683, c1684⟩ : ∃ v, I1235 a0 9 = v := ⟨_, rfl⟩
          have b1685 := iv15_9 hS1243.1 ta0 c1684
          rw [c1684] at p1261
          obtain ⟨v1686, c1687⟩ : ∃ v, I1235 a0 13 = v := ⟨_, rfl⟩
          rw [c1687] at p1262
          obtain ⟨v1688, c1689⟩ : ∃ v, I1235 a0 14 = v := ⟨_, rfl⟩
          rw [c1689] at p1263
          replace hF := hF.pos (by exact om_73cc8e29 p1260)
          replace hP := hP.pos (by exact om_73cc8e29 p1260)
          refine tr_goto 42 dX12_readEvent_37 (by decide) ?_
          refine tr_istore_n dX12_readEvent_42 (by decide) (by decide) ?_
          refine sf_oE43 hE hZ hS1243.1 (gB) ta0 (by (try rw [c1684]); first | done | with_reducible assumption | omega) ⟨_, d2⟩ rfl rfl rfl ?_
          rintro I1690 R1691 L1692 ⟨g1693, p1694, p1695, p1696, rp1697, -⟩
          obtain rfl : R0 = R1691 := funext fun a => funext fun j => (g1693.2.2 a j (wm_no rfl)).symm
          have hS1698 := hS1243.tr g1693 (by decide +kernel) (by decide +kernel)
          have c1699 : I1690 a1 2 = v37 := (g1693.cell ta1 (by decide +kernel)).trans c1244
          have hO1700 : FrO 14 a1 T I0 I1690 := hO1245.st g1693 (by decide +kernel)
          obtain ⟨v1701, c1702⟩ : ∃ v, I1690 a0 9 = v := ⟨_, rfl⟩
          have b1703 := iv15_9 hS1698.1 ta0 c1702
          rw [c1702] at p1694
          obtain ⟨v1704, c1705⟩ : ∃ v, I1690 a0 13 = v := ⟨_, rfl⟩
          rw [c1705] at p1695
          rw [c1687] at p1695
          obtain ⟨v1706, c1707⟩ : ∃ v, I1690 a0 14 = v := ⟨_, rfl⟩
          rw [c1707] at p1696
          rw [c1689] at p1696
          have eF := hF.eq
          have eP := hP.eq
          obtain ⟨v1708, c1709⟩ : ∃ v, I1690 a0 10 = v := ⟨_, rfl⟩
          have b1710 := iv15_10 hS1698.1 ta0 c1709
          obtain ⟨v1711, c1712⟩ : ∃ v, I1690 a0 11 = v := ⟨_, rfl⟩
          obtain ⟨y1713, c1714⟩ : ∃ v, L1692 a0 15 = v := ⟨_, rfl⟩
          obtain ⟨v1715, c1716⟩ : ∃ v, I1690 a0 12 = v := ⟨_, rfl⟩
          obtain ⟨v1717, c1718⟩ : ∃ v, I1690 a0 8 = v := ⟨_, rfl⟩
          have b1719 := iv15_8 hS1698.1 ta0 c1718
          exact ⟨rfl, rfl, rfl, rfl, rfl, hS1698, (fun b hb => (Option.some.inj (d2.symm.trans hb)) ▸ ((((FrM.rf (R := R0) (b := a1) (T := T)).st g1166 (by decide +kernel)).st g1238 (by decide +kernel)).st g1693 (by decide +kernel))), (fun dr hd => (Option.some.inj (d2.symm.trans hd)) ▸ hO1700), (Or.inr (⟨(by first | done | with_reducible assumption | exact om_7fac24c5 eF), (by (try rw [c1702]); first | done | with_reducible assumption | omega), (by (try rw [c1705]); first | done | with_reducible assumption | exact om_9adad658 p1262 p1695 eF), (by (try rw [c1707]); first | done | with_reducible assumption | exact om_3998a42e p1263 p1696 eP), trivial⟩)), trivial⟩
        · skip
          obtain ⟨v1720, c1721⟩ : ∃ v, I1235 a0 9 = v := ⟨_, rfl⟩
          have b1722 := iv15_9 hS1243.1 ta0 c1721
          rw [c1721] at p1267
          obtain ⟨v1723, c1724⟩ : ∃ v, I1235 a0 13 = v := ⟨_, rfl⟩
          rw [c1724] at p1268
          obtain ⟨v1725, c1726⟩ : ∃ v, I1235 a0 14 = v := ⟨_, rfl⟩
          rw [c1726] at p1269
          replace hF := hF.neg (by exact om_10ed11b5 p1265)
          replace hP := hP.neg (by exact om_10ed11b5 p1265)
          replace hF := hF.pos (by exact om_41eb13e5 p36 w1218 h1230 h1232 h1234 p1266)
          replace hP := hP.pos (by exact om_41eb13e5 p36 w1218 h1230 h1232 h1234 p1266)
          refine tr_goto 42 dX12_readEvent_37 (by decide) ?_
          refine tr_istore_n dX12_readEvent_42 (by decide) (by decide) ?_
          refine sf_oE43 hE hZ hS1243.1 (gB) ta0 (by (try rw [c1721]); first | done | with_reducible assumption | omega) ⟨_, d2⟩ rfl rfl rfl ?_
          rintro I1727 R1728 L1729 ⟨g1730, p1731, p1732, p1733, rp1734, -⟩
          obtain rfl : R0 = R1728 := funext fun a => funext fun j => (g1730.2.2 a j (wm_no rfl)).symm
          have hS1735 := hS1243.tr g1730 (by decide +kernel) (by decide +kernel)
          have c1736 : I1727 a1 2 = v37 := (g1730.cell ta1 (by decide +kernel)).trans c1244
          have hO1737 : FrO 14 a1 T I0 I1727 := hO1245.st g1730 (by decide +kernel)
          obtain ⟨v1738, c1739⟩ : ∃ v, I1727 a0 9 = v := ⟨_, rfl⟩
          have b1740 := iv15_9 hS1735.1 ta0 c1739
          rw [c1739] at p1731
          obtain ⟨v1741, c1742⟩ : ∃ v, I1727 a0 13 = v := ⟨_, rfl⟩
          rw [c1742] at p1732
          rw [c1724] at p1732
          obtain ⟨v1743, c1744⟩ : ∃ v, I1727 a0 14 = v := ⟨_, rfl⟩
          rw [c1744] at p1733
          rw [c1726] at p1733
          have eF := hF.eq
          have eP := hP.eq
          obtain ⟨v1745, c1746⟩ : ∃ v, I1727 a0 10 = v := ⟨_, rfl⟩
          have b1747 := iv15_10 hS1735.1 ta0 c1746
          obtain ⟨v1748, c1749⟩ : ∃ v, I1727 a0 11 = v := ⟨_, rfl⟩
          obtain ⟨y1750, c1751⟩ : ∃ v, L1729 a0 15 = v := ⟨_, rfl⟩
          obtain ⟨v1752, c1753⟩ : ∃ v, I1727 a0 12 = v := ⟨_, rfl⟩
          obtain ⟨v1754, c1755⟩ : ∃ v, I1727 a0 8 = v := ⟨_, rfl⟩
          have b1756 := iv15_8 hS1735.1 ta0 c1755
          exact ⟨rfl, rfl, rfl, rfl, rfl, hS1735, (fun b hb => (Option.some.inj (d2.symm.trans hb)) ▸ ((((FrM.rf (R := R0) (b := a1) (T := T)).st g1166 (by decide +kernel)).st g1238 (by decide +kernel)).st g1730 (by decide +kernel))), (fun dr hd => (Option.some.inj (d2.symm.trans hd)) ▸ hO1737), (Or.inr (⟨(by first | done | with_reducible assumption | exact om_7b84bd42 eF), (by (try rw [c1739]); first | done | with_reducible assumption | omega), (by (try rw [c1742]); first | done | with_reducible assumption | exact om_4510ffdb p1268 p1732 eF), (by (try rw [c1744]); first | done | with_reducible assumption | exact om_3998a42e p1269 p1733 eP), trivial⟩)), trivial⟩
      · skip
        exfalso; exact om_9a194045 pre18 kd74 h1227 h1228
    · skip
      obtain ⟨v1757, c1758⟩ : ∃ v, I1163 a0 9 = v := ⟨_, rfl⟩
      have b1759 := iv15_9 hS1171.1 ta0 c1758
      rw [c1758] at p1186
      obtain ⟨v1760, c1761⟩ : ∃ v, I1163 a0 13 = v := ⟨_, rfl⟩
      rw [c1761] at p1187
      obtain ⟨v1762, c1763⟩ : ∃ v, I1163 a0 14 = v := ⟨_, rfl⟩
      rw [c1763] at p1188
      have p1764 := p61
      unfold Q7M at p1764
      replace hF := hF.pos (by exact om_de452e62 pre18 p40 kd74 h1162 p1185)
      replace hP := hP.pos (by exact om_de452e62 pre18 p40 kd74 h1162 p1185)
      clear p1764
      refine sf_oE13 hE hZ hS1171.1 (gB) ta0 (by (try rw [c1758]); first | done | with_reducible assumption | omega) ⟨_, d2⟩ rfl rfl ?_
      rintro I1765 R1766 L1767 ⟨g1768, p1769, p1770, p1771, rp1772, -⟩
      obtain rfl : R0 = R1766 := funext fun a => funext fun j => (g1768.2.2 a j (wm_no rfl)).symm
      have hS1773 := hS1171.tr g1768 (by decide +kernel) (by decide +kernel)
      have c1774 : I1765 a1 2 = v37 := (g1768.cell ta1 (by decide +kernel)).trans c1172
      have hO1775 : FrO 14 a1 T I0 I1765 := hO1173.st g1768 (by decide +kernel)
      obtain ⟨v1776, c1777⟩ : ∃ v, I1765 a0 9 = v := ⟨_, rfl⟩
      have b1778 := iv15_9 hS1773.1 ta0 c1777
      rw [c1777] at p1769
      obtain ⟨v1779, c1780⟩ : ∃ v, I1765 a0 13 = v := ⟨_, rfl⟩
      rw [c1780] at p1770
      rw [c1761] at p1770
      obtain ⟨v1781, c1782⟩ : ∃ v, I1765 a0 14 = v := ⟨_, rfl⟩
      rw [c1782] at p1771
      rw [c1763] at p1771
      have eF := hF.eq
      have eP := hP.eq
      obtain ⟨v1783, c1784⟩ : ∃ v, I1765 a0 10 = v := ⟨_, rfl⟩
      have b1785 := iv15_10 hS1773.1 ta0 c1784
      obtain ⟨v1786, c1787⟩ : ∃ v, I1765 a0 11 = v := ⟨_, rfl⟩
      obtain ⟨y1788, c1789⟩ : ∃ v, L1767 a0 15 = v := ⟨_, rfl⟩
      obtain ⟨v1790, c1791⟩ : ∃ v, I1765 a0 12 = v := ⟨_, rfl⟩
      obtain ⟨v1792, c1793⟩ : ∃ v, I1765 a0 8 = v := ⟨_, rfl⟩
      have b1794 := iv15_8 hS1773.1 ta0 c1793
      exact ⟨rfl, rfl, rfl, rfl, rfl, hS1773, (fun b hb => (Option.some.inj (d2.symm.trans hb)) ▸ (((FrM.rf (R := R0) (b := a1) (T := T)).st g1166 (by decide +kernel)).st g1768 (by decide +kernel))), (fun dr hd => (Option.some.inj (d2.symm.trans hd)) ▸ hO1775), (Or.inr (⟨(by first | done | with_reducible assumption | exact om_64c62efe eF), (by (try rw [c1777]); first | done | with_reducible assumption | omega), (by (try rw [c1780]); first | done | with_reducible assumption | exact om_7fd518bd p1187 p1770 eF), (by (try rw [c1782]); first | done | with_reducible assumption | exact om_8e6888af p11 p1188 p1771 eP), trivial⟩)), trivial⟩
    · skip
      obtain ⟨v1795, c1796⟩ : ∃ v, I1163 a0 9 = v := ⟨_, rfl⟩
      have b1797 := iv15_9 hS1171.1 ta0 c1796
      rw [c1796] at p1191
      obtain ⟨v1798, c1799⟩ : ∃ v, I1163 a0 13 = v := ⟨_, rfl⟩
      rw [c1799] at p1192
      obtain ⟨v1800, c1801⟩ : ∃ v, I1163 a0 14 = v := ⟨_, rfl⟩
      rw [c1801] at p1193
      have p1802 := p61
      unfold Q7M at p1802
      replace hF := hF.neg (by exact om_6c82f3de pre18 b39.2 b39.1 p40 kd74 h1162 p1189 p1190 p1802)
      replace hP := hP.neg (by exact om_6c82f3de pre18 b39.2 b39.1 p40 kd74 h1162 p1189 p1190 p1802)
      replace hF := hF.pos (by exact om_89c4113d pre18 kd74 p1190 p1802)
      replace hP := hP.pos (by exact om_89c4113d pre18 kd74 p1190 p1802)
      clear p1802
      refine sf_oE13 hE hZ hS1171.1 (gB) ta0 (by (try rw [c1796]); first | done | with_reducible assumption | omega) ⟨_, d2⟩ rfl rfl ?_
      rintro I1803 R1804 L1805 ⟨g1806, p1807, p1808, p1809, rp1810, -⟩
      obtain rfl : R0 = R1804 := funext fun a => funext fun j => (g1806.2.2 a j (wm_no rfl)).symm
      have hS1811 := hS1171.tr g1806 (by decide +kernel) (by decide +kernel)
      have c1812 : I1803 a1 2 = v37 := (g1806.cell ta1 (by decide +kernel)).trans c1172
      have hO1813 : FrO 14 a1 T I0 I1803 := hO1173.st g1806 (by decide +kernel)
      obtain ⟨v1814, c1815⟩ : ∃ v, I1803 a0 9 = v := ⟨_, rfl⟩
      have b1816 := iv15_9 hS1811.1 ta0 c1815
      rw [c1815] at p1807
      obtain ⟨v1817, c1818⟩ : ∃ v, I1803 a0 13 = v := ⟨_, rfl⟩
      rw [c1818] at p1808
      rw [c1799] at p1808
      obtain ⟨v1819, c1820⟩ : ∃ v, I1803 a0 14 = v := ⟨_, rfl⟩
      rw [c1820] at p1809
      rw [c1801] at p1809
      have eF := hF.eq
      have eP := hP.eq
      obtain ⟨v1821, c1822⟩ : ∃ v, I1803 a0 10 = v := ⟨_, rfl⟩
      have b1823 := iv15_10 hS1811.1 ta0 c1822
      obtain ⟨v1824, c1825⟩ : ∃ v, I1803 a0 11 = v := ⟨_, rfl⟩
      obtain ⟨y1826, c1827⟩ : ∃ v, L1805 a0 15 = v := ⟨_, rfl⟩
      obtain ⟨v1828, c1829⟩ : ∃ v, I1803 a0 12 = v := ⟨_, rfl⟩
      obtain ⟨v1830, c1831⟩ : ∃ v, I1803 a0 8 = v := ⟨_, rfl⟩
      have b1832 := iv15_8 hS1811.1 ta0 c1831
      exact ⟨rfl, rfl, rfl, rfl, rfl, hS1811, (fun b hb => (Option.some.inj (d2.symm.trans hb)) ▸ (((FrM.rf (R := R0) (b := a1) (T := T)).st g1166 (by decide +kernel)).st g1806 (by decide +kernel))), (fun dr hd => (Option.some.inj (d2.symm.trans hd)) ▸ hO1813), (Or.inr (⟨(by first | done | with_reducible assumption | exact om_3a8e1f7c eF), (by (try rw [c1815]); first | done | with_reducible assumption | omega), (by (try rw [c1818]); first | done | with_reducible assumption | exact om_1428d4dd p1192 p1808 eF), (by (try rw [c1820]); first | done | with_reducible assumption | exact om_8e6888af p11 p1193 p1809 eP), trivial⟩)), trivial⟩
  · skip
    refine tr_aload_n dX12_readEvent_0 rfl ?_
    refine tr_aload_n dX12_readEvent_1 rfl ?_
    refine tr_getR dX12_readEvent_2 fl12_188 (kR15 hS0.1 ta0) d2 ?_
    refine q_getI dX12_readEvent_5 fl12_265 (kR14 hS0.1 ta1) c38 ?_
    refine q_bipush dX12_readEvent_8 (by decide +kernel) ?_
    intro v1833 h1834
    refine q_callVv hE (M' := mX12_begins) (as := [_, _]) dX12_readEvent_10 lk12_268 inX12_begins seX12_begins myX12_begins (by decide) ⟨by decide, by decide⟩ rfl (kR15 hS0.1 ta0) (Nat.le_of_ble_eq_true rfl) rfl rfl (by decide) (by decide) (fk_X12_begins hS0.1 (gB) (gs) (gQ) ta0 (TxA.kp hT hS0 ta0 rfl rfl rfl (by decide +kernel) (by decide +kernel)) (by (try rw [c4]); first | done | with_reducible assumption | omega) (by (try rw [c4]); first | done | with_reducible assumption | omega) (by (try rw [c9]); first | done | with_reducible assumption | omega) (by (try rw [c13]); first | done | with_reducible assumption | omega) (by (try rw [c16]); first | done | assumption) (by (try rw [c19]); first | done | assumption) (by (try rw [c22]); first | done | assumption) (by (try rw [c26]); first | done | with_reducible assumption | omega) (fun q0 z0 => by obtain rfl := Option.some.inj ((d2).symm.trans z0); (try rw [c30]); first | done | with_reducible assumption | omega) (by first | done | with_reducible assumption | omega) ⟨_, d2⟩) ?_
    rintro cn' K' N' I1835 R1836 L1837 ⟨rfl, rfl, rfl, rfl, g1838, dj1841, -⟩
    have hM1842 : NmM I1835 R0 L0 a1 gQ := NmM.kpS hM0 g1838 hS0.1 ta1 (by decide +kernel) (by decide +kernel)
    have hS1843 := hS0.tr g1838 (by decide +kernel) (by decide +kernel)
    have c1844 : I1835 a1 2 = v37 := (g1838.cell ta1 (by decide +kernel)).trans c38
    have hO1845 : FrO 14 a1 T I0 I1835 := hO0.st g1838 (by decide +kernel)
    rcases dj1841 with ⟨p1846, p1847, p1848, p1849, p1850, p1851, p1852, p1853, p1854, p1855, gl1856, -⟩ | ⟨p1857, p1858, p1859, p1860, -⟩ | ⟨p1861, p1862, p1863, p1864, p1865, -⟩
    · skip
      have hL1866 := hL0.tr gl1856 (by decide +kernel)
      have hM1867 : NmM I1835 R0 L1837 a1 gQ := NmM.kpL hM1842 gl1856 hS1843.1 ta1 (by decide +kernel)
      obtain ⟨v1868, c1869⟩ : ∃ v, I1835 a0 13 = v := ⟨_, rfl⟩
      rw [c1869] at p1848
      rw [c65] at p1848
      obtain ⟨v1870, c1871⟩ : ∃ v, I1835 a0 9 = v := ⟨_, rfl⟩
      have b1872 := iv15_9 hS1843.1 ta0 c1871
      rw [c1871] at p1849
      rw [c1871] at p1850
      obtain ⟨v1873, c1874⟩ : ∃ v, I1835 a0 10 = v := ⟨_, rfl⟩
      have b1875 := iv15_10 hS1843.1 ta0 c1874
      rw [c1874] at p1851
      obtain ⟨v1876, c1877⟩ : ∃ v, I1835 a0 11 = v := ⟨_, rfl⟩
      rw [c1877] at p1852
      obtain ⟨y1878, c1879⟩ : ∃ v, L1837 a0 15 = v := ⟨_, rfl⟩
      rw [c1879] at p1853
      obtain ⟨v1880, c1881⟩ : ∃ v, I1835 a0 12 = v := ⟨_, rfl⟩
      rw [c1881] at p1854
      obtain ⟨v1882, c1883⟩ : ∃ v, I1835 a0 8 = v := ⟨_, rfl⟩
      have b1884 := iv15_8 hS1843.1 ta0 c1883
      rw [c1883] at p1855
      have p1885 := p61
      unfold Q7M at p1885
      replace hF := hF.neg (by exact om_d8ef519f pre18 b31.2 b31.1 p32 b39.2 b39.1 p40 kd74 h1834 p1846 p1847 p1885)
      replace hP := hP.neg (by exact om_d8ef519f pre18 b31.2 b31.1 p32 b39.2 b39.1 p40 kd74 h1834 p1846 p1847 p1885)
      replace hF := hF.neg (by exact om_744959b9 pre18 kd74 p1847 p1885)
      replace hP := hP.neg (by exact om_744959b9 pre18 kd74 p1847 p1885)
      clear p1885
      obtain ⟨w1886, w1887, w1888, w1889, w1890, w1891, w1892, w1893, w1894, w1895, w1896, w1897⟩ := lnl_e (B := gB) (Q := gQ) (s := gs) (by exact om_0b3f8417 pre18 kd74) (by exact om_42c31655 pre18 kd74)
      replace hF := hF.to w1886 (evF_c2 (B := gB) (Q := gQ) (k := srt gB gs) (s := (tkN gB gs)) (by exact om_19aee7d3 pre18 kd74))
      replace hP := hP.to w1887 (evP_c2 (B := gB) (Q := gQ) (k := srt gB gs) (s := (tkN gB gs)) (by exact om_19aee7d3 pre18 kd74))
      refine tr_iload_n dX12_readEvent_13 rfl ?_
      refine q_iconst dX12_readEvent_14 (by decide) ?_
      intro v1898 h1899
      refine q_icmp_eq 23 dX12_readEvent_15 (by decide) (fun h1900 => ?_) (fun h1900 => ?_)
      · skip
        exfalso; exact om_0361514e pre18 kd74 h1899 h1900
      · skip
        refine tr_iload_n dX12_readEvent_18 rfl ?_
        refine q_iconst dX12_readEvent_19 (by decide) ?_
        intro v1901 h1902
        refine q_icmp_ne 40 dX12_readEvent_20 (by decide) (fun h1903 => ?_) (fun h1903 => ?_)
        · skip
          exfalso; exact om_5726ba40 pre18 kd74 h1902 h1903
        · skip
          refine tr_aload_n dX12_readEvent_23 rfl ?_
          refine q_iconst dX12_readEvent_24 (by decide) ?_
          intro v1904 h1905
          refine tr_aload_n dX12_readEvent_25 rfl ?_
          refine tr_getR dX12_readEvent_26 fl12_188 (kR15 hS1843.1 ta0) d2 ?_
          refine q_getI dX12_readEvent_29 fl12_263 (kR14 hS1843.1 ta1) ((hS1843.cell ta1 (by decide +kernel)).trans c34) ?_
          refine q_iconst dX12_readEvent_32 (by decide) ?_
          intro v1906 h1907
          refine q_isubE dX12_readEvent_33 (by intro j1 j2 j3 j4; exact om_99c1ed93 b35.2 b35.1 p36 w1890 h1907) ?_
          intro v1908 h1909
          refine q_callVi hE (M' := mX12_readWhole) (as := [_, _]) dX12_readEvent_34 lk12_161 inX12_readWhole seX12_readWhole myX12_readWhole (by decide) ⟨by decide, by decide⟩ rfl (kR15 hS1843.1 ta0) (Nat.le_of_ble_eq_true rfl) rfl rfl (by decide) (by decide) (fk_X12_readWhole hS1843.1 (gB) ((tkN gB gs)) ta0 (TxA.kp hT hS1843 ta0 rfl rfl rfl (by decide +kernel) (by decide +kernel)) (by (try rw [c1871]); first | done | with_reducible assumption | omega) (by (try rw [c1871]); first | done | with_reducible assumption | omega) (by (try rw [c1874]); first | done | with_reducible assumption | omega) (by (try rw [c1877]); first | done | with_reducible assumption | omega) (by (try rw [c1879]); first | done | assumption) (by (try rw [c1881]); first | done | assumption) (by (try rw [c1883]); first | done | assumption) (by (try rw [((hS1843.cell ta0 (by decide +kernel)).trans c26)]); first | done | with_reducible assumption | omega)) ?_
          rintro v1915 cn' K' N' I1910 R1911 L1912 ⟨rfl, rfl, rfl, rfl, g1913, dj1916, -⟩
          have hM1917 : NmM I1910 R0 L1837 a1 gQ := NmM.kpS hM1867 g1913 hS1843.1 ta1 (by decide +kernel) (by decide +kernel)
          have hS1918 := hS1843.tr g1913 (by decide +kernel) (by decide +kernel)
          have c1919 : I1910 a1 2 = v37 := (g1913.cell ta1 (by decide +kernel)).trans c1844
          have hO1920 : FrO 14 a1 T I0 I1910 := hO1845.st g1913 (by decide +kernel)
          rcases dj1916 with ⟨p1921, p1922, p1923, p1924, p1925, p1926, p1927, p1928, p1929, p1930, p1931, p1932, gl1933, -⟩ | ⟨p1934, p1935, p1936, p1937, p1938, -⟩ | ⟨p1939, p1940, p1941, p1942, p1943, p1944, -⟩
          · skip
            have hL1945 := hL1866.tr gl1933 (by decide +kernel)
            have hM1946 : NmM I1910 R0 L1912 a1 gQ := NmM.kpL hM1917 gl1933 hS1918.1 ta1 (by decide +kernel)
            obtain ⟨v1947, c1948⟩ : ∃ v, I1910 a0 13 = v := ⟨_, rfl⟩
            rw [c1948] at p1925
            rw [c1869] at p1925
            obtain ⟨v1949, c1950⟩ : ∃ v, I1910 a0 9 = v := ⟨_, rfl⟩
            have b1951 := iv15_9 hS1918.1 ta0 c1950
            rw [c1950] at p1926
            rw [c1950] at p1927
            obtain ⟨v1952, c1953⟩ : ∃ v, I1910 a0 10 = v := ⟨_, rfl⟩
            have b1954 := iv15_10 hS1918.1 ta0 c1953
            rw [c1953] at p1928
            obtain ⟨v1955, c1956⟩ : ∃ v, I1910 a0 11 = v := ⟨_, rfl⟩
            rw [c1956] at p1929
            obtain ⟨y1957, c1958⟩ : ∃ v, L1912 a0 15 = v := ⟨_, rfl⟩
            rw [c1958] at p1930
            obtain ⟨v1959, c1960⟩ : ∃ v, I1910 a0 12 = v := ⟨_, rfl⟩
            rw [c1960] at p1931
            obtain ⟨v1961, c1962⟩ : ∃ v, I1910 a0 8 = v := ⟨_, rfl⟩
            have b1963 := iv15_8 hS1918.1 ta0 c1962
            rw [c1962] at p1932
            replace hF := hF.neg (by exact om_10ed11b5 p1922)
            replace hP := hP.neg (by exact om_10ed11b5 p1922)
            replace hF := hF.neg (by exact om_4062d996 p36 w1890 h1905 h1907 h1909 p1923 p1924)
            replace hP := hP.neg (by exact om_4062d996 p36 w1890 h1905 h1907 h1909 p1923 p1924)
            refine tr_goto 42 dX12_readEvent_37 (by decide) ?_
            refine tr_istore_n dX12_readEvent_42 (by decide) (by decide) ?_
            refine tr_aload_n dX12_readEvent_43 rfl ?_
            refine q_iconst dX12_readEvent_44 (by decide) ?_
            intro v1964 h1965
            refine tr_aload_n dX12_readEvent_45 rfl ?_
            refine tr_getR dX12_readEvent_46 fl12_188 (kR15 hS1918.1 ta0) d2 ?_
            refine q_getI dX12_readEvent_49 fl12_192 (kR14 hS1918.1 ta1) ((hS1918.cell ta1 (by decide +kernel)).trans c30) ?_
            refine q_iconst dX12_readEvent_52 (by decide) ?_
            intro v1966 h1967
            refine q_isubE dX12_readEvent_53 (by intro j1 j2 j3 j4; exact om_6479810f b31.2 b31.1 p32 w1889 h1967) ?_
            intro v1968 h1969
            refine q_callVi hE (M' := mX12_readWhole) (as := [_, _]) dX12_readEvent_54 lk12_161 inX12_readWhole seX12_readWhole myX12_readWhole (by decide) ⟨by decide, by decide⟩ rfl (kR15 hS1918.1 ta0) (Nat.le_of_ble_eq_true rfl) rfl rfl (by decide) (by decide) (fk_X12_readWhole hS1918.1 (gB) ((tkN gB (tkN gB gs))) ta0 (TxA.kp hT hS1918 ta0 rfl rfl rfl (by decide +kernel) (by decide +kernel)) (by (try rw [c1950]); first | done | with_reducible assumption | omega) (by (try rw [c1950]); first | done | with_reducible assumption | omega) (by (try rw [c1953]); first | done | with_reducible assumption | omega) (by (try rw [c1956]); first | done | with_reducible assumption | omega) (by (try rw [c1958]); first | done | assumption) (by (try rw [c1960]); first | done | assumption) (by (try rw [c1962]); first | done | assumption) (by (try rw [((hS1918.cell ta0 (by decide +kernel)).trans c26)]); first | done | with_reducible assumption | omega)) ?_
            rintro v1975 cn' K' N' I1970 R1971 L1972 ⟨rfl, rfl, rfl, rfl, g1973, dj1976, -⟩
            have hM1977 : NmM I1970 R0 L1912 a1 gQ := NmM.kpS hM1946 g1973 hS1918.1 ta1 (by decide +kernel) (by decide +kernel)
            have hS1978 := hS1918.tr g1973 (by decide +kernel) (by decide +kernel)
            have c1979 : I1970 a1 2 = v37 := (g1973.cell ta1 (by decide +kernel)).trans c1919
            have hO1980 : FrO 14 a1 T I0 I1970 := hO1920.st g1973 (by decide +kernel)
            rcases dj1976 with ⟨p1981, p1982, p1983, p1984, p1985, p1986, p1987, p1988, p1989, p1990, p1991, p1992, gl1993, -⟩ | ⟨p1994, p1995, p1996, p1997, p1998, -⟩ | ⟨p1999, p2000, p2001, p2002, p2003, p2004, -⟩
            · skip
              have hL2005 := hL1945.tr gl1993 (by decide +kernel)
              have hM2006 : NmM I1970 R0 L1972 a1 gQ := NmM.kpL hM1977 gl1993 hS1978.1 ta1 (by decide +kernel)
              obtain ⟨v2007, c2008⟩ : ∃ v, I1970 a0 13 = v := ⟨_, rfl⟩
              rw [c2008] at p1985
              rw [c1948] at p1985
              obtain ⟨v2009, c2010⟩ : ∃ v, I1970 a0 9 = v := ⟨_, rfl⟩
              have b2011 := iv15_9 hS1978.1 ta0 c2010
              rw [c2010] at p1986
              rw [c2010] at p1987
              obtain ⟨v2012, c2013⟩ : ∃ v, I1970 a0 10 = v := ⟨_, rfl⟩
              have b2014 := iv15_10 hS1978.1 ta0 c2013
              rw [c2013] at p1988
              obtain ⟨v2015, c2016⟩ : ∃ v, I1970 a0 11 = v := ⟨_, rfl⟩
              rw [c2016] at p1989
              obtain ⟨y2017, c2018⟩ : ∃ v, L1972 a0 15 = v := ⟨_, rfl⟩
              rw [c2018] at p1990
              obtain ⟨v2019, c2020⟩ : ∃ v, I1970 a0 12 = v := ⟨_, rfl⟩
              rw [c2020] at p1991
              obtain ⟨v2021, c2022⟩ : ∃ v, I1970 a0 8 = v := ⟨_, rfl⟩
              have b2023 := iv15_8 hS1978.1 ta0 c2022
              rw [c2022] at p1992
              replace hF := hF.neg (by exact om_10ed11b5 p1982)
              replace hP := hP.neg (by exact om_10ed11b5 p1982)
              replace hF := hF.neg (by exact om_4062d996 p32 w1889 h1965 h1967 h1969 p1983 p1984)
              replace hP := hP.neg (by exact om_4062d996 p32 w1889 h1965 h1967 h1969 p1983 p1984)
              refine tr_istore_n dX12_readEvent_57 (by decide) (by decide) ?_
              refine tr_iload_n dX12_readEvent_58 rfl ?_
              refine q_iconst dX12_readEvent_59 (by decide) ?_
              intro v2024 h2025
              refine q_icmp_ne 69 dX12_readEvent_60 (by decide) (fun h2026 => ?_) (fun h2026 => ?_)
              · skip
                refine tr_aload_n dX12_readEvent_69 rfl ?_
                refine tr_ldcwS dX12_readEvent_70 ld12_272 ?_
                refine tr_iload_n dX12_readEvent_73 rfl ?_
                refine q_iconst dX12_readEvent_74 (by decide) ?_
                intro v2027 h2028
                refine q_iaddE dX12_readEvent_75 (by intro j1 j2 j3 j4; exact om_5e7b6990 b31.2 b31.1 p32 w1889 h1965 h1967 h1969 p1981 p1983 p1984 h2028 j2) ?_
                intro v2029 h2030
                refine tr_aload_n dX12_readEvent_76 rfl ?_
                refine tr_getR dX12_readEvent_77 fl12_188 (kR15 hS1978.1 ta0) d2 ?_
                refine q_getI dX12_readEvent_80 fl12_192 (kR14 hS1978.1 ta1) ((hS1978.cell ta1 (by decide +kernel)).trans c30) ?_
                refine q_callVi hE (M' := mX12_readPart) (as := [_, _, _]) dX12_readEvent_83 lk12_249 inX12_readPart seX12_readPart myX12_readPart (by decide) ⟨by decide, by decide⟩ rfl (kR15 hS1978.1 ta0) (Nat.le_of_ble_eq_true rfl) rfl rfl (by decide) (by decide) (fk_X12_readPart hS1978.1 (gB) ((tkN gB (tkN gB (tkN gB gs)))) ta0 (by decide) (TxA.kp hT hS1978 ta0 rfl rfl rfl (by decide +kernel) (by decide +kernel)) (by (try rw [c2010]); first | done | with_reducible assumption | omega) (by (try rw [c2010]); first | done | with_reducible assumption | omega) (by (try rw [c2013]); first | done | with_reducible assumption | omega) (by (try rw [c2016]); first | done | with_reducible assumption | omega) (by (try rw [c2018]); first | done | assumption) (by (try rw [c2020]); first | done | assumption) (by (try rw [c2022]); first | done | assumption) (by (try rw [((hS1978.cell ta0 (by decide +kernel)).trans c26)]); first | done | with_reducible assumption | omega)) ?_
                rintro v2036 cn' K' N' I2031 R2032 L2033 ⟨rfl, rfl, rfl, rfl, g2034, dj2037, -⟩
                (try rw [pk_25] at dj2037)
                have hM2038 : NmM I2031 R0 L1972 a1 gQ := NmM.kpS hM2006 g2034 hS1978.1 ta1 (by decide +kernel) (by decide +kernel)
                have hS2039 := hS1978.tr g2034 (by decide +kernel) (by decide +kernel)
                have c2040 : I2031 a1 2 = v37 := (g2034.cell ta1 (by decide +kernel)).trans c1979
                have hO2041 : FrO 14 a1 T I0 I2031 := hO1980.st g2034 (by decide +kernel)
                rcases dj2037 with ⟨p2042, p2043, p2044, p2045, p2046, p2047, p2048, p2049, p2050, p2051, p2052, p2053, p2054, p2055, gl2056, -⟩ | ⟨p2057, p2058, p2059, p2060, p2061, -⟩ | ⟨p2062, p2063, p2064, p2065, p2066, p2067, p2068, -⟩ | ⟨p2069, p2070, p2071, p2072, p2073, p2074, p2075, p2076, -⟩
                · skip
                  have hL2077 := hL2005.tr gl2056 (by decide +kernel)
                  have hM2078 : NmM I2031 R0 L2033 a1 gQ := NmM.kpL hM2038 gl2056 hS2039.1 ta1 (by decide +kernel)
                  obtain ⟨v2079, c2080⟩ : ∃ v, I2031 a0 13 = v := ⟨_, rfl⟩
                  rw [c2080] at p2048
                  rw [c2008] at p2048
                  obtain ⟨v2081, c2082⟩ : ∃ v, I2031 a0 9 = v := ⟨_, rfl⟩
                  have b2083 := iv15_9 hS2039.1 ta0 c2082
                  rw [c2082] at p2049
                  rw [c2082] at p2050
                  obtain ⟨v2084, c2085⟩ : ∃ v, I2031 a0 10 = v := ⟨_, rfl⟩
                  have b2086 := iv15_10 hS2039.1 ta0 c2085
                  rw [c2085] at p2051
                  obtain ⟨v2087, c2088⟩ : ∃ v, I2031 a0 11 = v := ⟨_, rfl⟩
                  rw [c2088] at p2052
                  obtain ⟨y2089, c2090⟩ : ∃ v, L2033 a0 15 = v := ⟨_, rfl⟩
                  rw [c2090] at p2053
                  obtain ⟨v2091, c2092⟩ : ∃ v, I2031 a0 12 = v := ⟨_, rfl⟩
                  rw [c2092] at p2054
                  obtain ⟨v2093, c2094⟩ : ∃ v, I2031 a0 8 = v := ⟨_, rfl⟩
                  have b2095 := iv15_8 hS2039.1 ta0 c2094
                  rw [c2094] at p2055
                  replace hF := hF.neg (by exact om_04941ac6 p2043 p2044)
                  replace hP := hP.neg (by exact om_04941ac6 p2043 p2044)
                  replace hF := hF.neg (by exact om_10ed11b5 p2045)
                  replace hP := hP.neg (by exact om_10ed11b5 p2045)
                  replace hF := hF.neg (by exact om_11a1fbca p32 w1889 h1967 h1969 p1981 h2028 h2030 p2046 p2047)
                  replace hP := hP.neg (by exact om_11a1fbca p32 w1889 h1967 h1969 p1981 h2028 h2030 p2046 p2047)
                  refine tr_istore dX12_readEvent_86 (by decide) (by decide) ?_
                  refine tr_aload_n dX12_readEvent_88 rfl ?_
                  refine q_getI dX12_readEvent_89 fl12_99 (kR15 hS2039.1 ta0) c2082 ?_
                  refine q_iconst dX12_readEvent_92 (by decide) ?_
                  intro v2096 h2097
                  refine q_icmp_ne 97 dX12_readEvent_93 (by decide) (fun h2098 => ?_) (fun h2098 => ?_)
                  · skip
                    refine tr_aload_n dX12_readEvent_97 rfl ?_
                    refine tr_getR dX12_readEvent_98 fl12_188 (kR15 hS2039.1 ta0) d2 ?_
                    refine q_getI dX12_readEvent_101 fl12_265 (kR14 hS2039.1 ta1) c2040 ?_
                    refine tr_istore dX12_readEvent_104 (by decide) (by decide) ?_
                    refine tr_aload_n dX12_readEvent_106 rfl ?_
                    refine tr_getR dX12_readEvent_107 fl12_188 (kR15 hS2039.1 ta0) d2 ?_
                    refine tr_getR dX12_readEvent_110 fl12_274 (kR14 hS2039.1 ta1) d67 ?_
                    refine tr_iload dX12_readEvent_113 rfl ?_
                    refine tr_iload_n dX12_readEvent_115 rfl ?_
                    refine q_iastX dX12_readEvent_116 (kR54 hS2039.1 ta66) (ti_in (nR54 hS2039.1 ta66) (by exact om_b14f9e1e b39.2 b39.1 p40 w1891) (by exact om_00437d75 pre18 b31.2 b31.1 p32 b39.2 b39.1 p40 kd74 h1834 p1846 p1847 w1889 w1891 h1899 h1900 h1967 h1969 h2025 h2026 p2050 p2049 b2083.1 h2097 h2098)) hS2039 ta66 (by rfl) (hS2039.1.putK (m := a1) ta1 d67 (by rw [c2040]; exact Int.le_of_eq (ti_nat (by exact om_b14f9e1e b39.2 b39.1 p40 w1891)).symm)) ?_
                    intro I2103 hS2104 e2105 f2106
                    have c2107 : I2103 a1 2 = v37 := (f2106 _ _ (fun q => by have z := ta1; rw [q.1, ta66] at z; exact absurd z (by decide))).trans c2040
                    have c2108 : I2103 a0 13 = v2079 := (f2106 _ _ (fun q => by have z := ta0; rw [q.1, ta66] at z; exact absurd z (by decide))).trans c2080
                    have c2109 : I2103 a0 9 = v2081 := (f2106 _ _ (fun q => by have z := ta0; rw [q.1, ta66] at z; exact absurd z (by decide))).trans c2082
                    have c2110 : I2103 a0 10 = v2084 := (f2106 _ _ (fun q => by have z := ta0; rw [q.1, ta66] at z; exact absurd z (by decide))).trans c2085
                    have c2111 : I2103 a0 11 = v2087 := (f2106 _ _ (fun q => by have z := ta0; rw [q.1, ta66] at z; exact absurd z (by decide))).trans c2088
                    have c2112 : I2103 a0 12 = v2091 := (f2106 _ _ (fun q => by have z := ta0; rw [q.1, ta66] at z; exact absurd z (by decide))).trans c2092
                    have c2113 : I2103 a0 8 = v2093 := (f2106 _ _ (fun q => by have z := ta0; rw [q.1, ta66] at z; exact absurd z (by decide))).trans c2094
                    have hO2114 : FrO 14 a1 T I0 I2103 := hO2041.put f2106 ta66 (Or.inl (by decide))
                    have hM2115 : NmM I2103 R0 L2033 a1 gQ := NmM.kp1 hM2078 f2106 ta66 rfl rfl hS2039.1 ta1
                    refine tr_aload_n dX12_readEvent_117 rfl ?_
                    refine tr_getR dX12_readEvent_118 fl12_188 (kR15 hS2104.1 ta0) d2 ?_
                    refine tr_getR dX12_readEvent_121 fl12_277 (kR14 hS2104.1 ta1) d69 ?_
                    refine tr_iload dX12_readEvent_124 rfl ?_
                    refine tr_iload_n dX12_readEvent_126 rfl ?_
                    refine q_iastX dX12_readEvent_127 (kR55 hS2104.1 ta68) (ti_in (nR55 hS2104.1 ta68) (by exact om_b14f9e1e b39.2 b39.1 p40 w1891) (by exact om_00437d75 pre18 b31.2 b31.1 p32 b39.2 b39.1 p40 kd74 h1834 p1846 p1847 w1889 w1891 h1899 h1900 h1967 h1969 h2025 h2026 p2050 p2049 b2083.1 h2097 h2098)) hS2104 ta68 (by rfl) (hS2104.1.putH (m := a1) ta1 d69 (by rw [c2107]; exact Int.le_of_eq (ti_nat (by exact om_b14f9e1e b39.2 b39.1 p40 w1891)).symm) (by exact om_3e0e6c99 b35.2 b35.1 p36 w1890 h1905 h1907 h1909 p1921 p1923 p1924)) ?_
                    intro I2120 hS2121 e2122 f2123
                    have c2124 : I2120 a1 2 = v37 := (f2123 _ _ (fun q => by have z := ta1; rw [q.1, ta68] at z; exact absurd z (by decide))).trans c2107
                    have c2125 : I2120 a0 13 = v2079 := (f2123 _ _ (fun q => by have z := ta0; rw [q.1, ta68] at z; exact absurd z (by decide))).trans c2108
                    have c2126 : I2120 a0 9 = v2081 := (f2123 _ _ (fun q => by have z := ta0; rw [q.1, ta68] at z; exact absurd z (by decide))).trans c2109
                    have c2127 : I2120 a0 10 = v2084 := (f2123 _ _ (fun q => by have z := ta0; rw [q.1, ta68] at z; exact absurd z (by decide))).trans c2110
                    have c2128 : I2120 a0 11 = v2087 := (f2123 _ _ (fun q => by have z := ta0; rw [q.1, ta68] at z; exact absurd z (by decide))).trans c2111
                    have c2129 : I2120 a0 12 = v2091 := (f2123 _ _ (fun q => by have z := ta0; rw [q.1, ta68] at z; exact absurd z (by decide))).trans c2112
                    have c2130 : I2120 a0 8 = v2093 := (f2123 _ _ (fun q => by have z := ta0; rw [q.1, ta68] at z; exact absurd z (by decide))).trans c2113
                    have c2131 : I2120 a66 v37.toNatClampNeg = x1 := (f2123 _ _ (fun q => by have z := ta66; rw [q.1, ta68] at z; exact absurd z (by decide))).trans e2105
                    have hO2132 : FrO 14 a1 T I0 I2120 := hO2114.put f2123 ta68 (Or.inl (by decide))
                    have hM2133 : NmM I2120 R0 L2033 a1 gQ := NmM.kp1 hM2115 f2123 ta68 rfl rfl hS2104.1 ta1
                    refine tr_aload_n dX12_readEvent_128 rfl ?_
                    refine tr_getR dX12_readEvent_129 fl12_188 (kR15 hS2121.1 ta0) d2 ?_
                    refine tr_getR dX12_readEvent_132 fl12_280 (kR14 hS2121.1 ta1) d71 ?_
                    refine tr_iload dX12_readEvent_135 rfl ?_
                    refine tr_iload_n dX12_readEvent_137 rfl ?_
                    refine q_iast dX12_readEvent_138 (kR56 hS2121.1 ta70) (ti_in (nR56 hS2121.1 ta70) (by exact om_b14f9e1e b39.2 b39.1 p40 w1891) (by exact om_00437d75 pre18 b31.2 b31.1 p32 b39.2 b39.1 p40 kd74 h1834 p1846 p1847 w1889 w1891 h1899 h1900 h1967 h1969 h2025 h2026 p2050 p2049 b2083.1 h2097 h2098)) hS2121 ta70 (by show (0 : Int) ≤ v1975.toInt ∧ v1975.toInt ≤ (240 : Int); exact om_b25ef162 b31.2 b31.1 p32 w1889 h1965 h1967 h1969 p1981 p1983 h2028 h2030 p2046 p2047) rfl (by rfl) ?_
                    intro I2134 hS2135 e2137 f2136
                    have c2138 : I2134 a1 2 = v37 := (f2136 _ _ (fun q => by have z := ta1; rw [q.1, ta70] at z; exact absurd z (by decide))).trans c2124
                    have c2139 : I2134 a0 13 = v2079 := (f2136 _ _ (fun q => by have z := ta0; rw [q.1, ta70] at z; exact absurd z (by decide))).trans c2125
                    have c2140 : I2134 a0 9 = v2081 := (f2136 _ _ (fun q => by have z := ta0; rw [q.1, ta70] at z; exact absurd z (by decide))).trans c2126
                    have c2141 : I2134 a0 10 = v2084 := (f2136 _ _ (fun q => by have z := ta0; rw [q.1, ta70] at z; exact absurd z (by decide))).trans c2127
                    have c2142 : I2134 a0 11 = v2087 := (f2136 _ _ (fun q => by have z := ta0; rw [q.1, ta70] at z; exact absurd z (by decide))).trans c2128
                    have c2143 : I2134 a0 12 = v2091 := (f2136 _ _ (fun q => by have z := ta0; rw [q.1, ta70] at z; exact absurd z (by decide))).trans c2129
                    have c2144 : I2134 a0 8 = v2093 := (f2136 _ _ (fun q => by have z := ta0; rw [q.1, ta70] at z; exact absurd z (by decide))).trans c2130
                    have c2145 : I2134 a66 v37.toNatClampNeg = x1 := (f2136 _ _ (fun q => by have z := ta66; rw [q.1, ta70] at z; exact absurd z (by decide))).trans c2131
                    have c2146 : I2134 a68 v37.toNatClampNeg = v1915 := (f2136 _ _ (fun q => by have z := ta68; rw [q.1, ta70] at z; exact absurd z (by decide))).trans e2122
                    have hO2147 : FrO 14 a1 T I0 I2134 := hO2132.put f2136 ta70 (Or.inl (by decide))
                    have hM2148 : NmM I2134 R0 L2033 a1 gQ := NmM.kp1 hM2133 f2136 ta70 rfl rfl hS2121.1 ta1
                    refine tr_aload_n dX12_readEvent_139 rfl ?_
                    refine tr_getR dX12_readEvent_140 fl12_188 (kR15 hS2135.1 ta0) d2 ?_
                    refine tr_getR dX12_readEvent_143 fl12_283 (kR14 hS2135.1 ta1) d73 ?_
                    refine tr_iload dX12_readEvent_146 rfl ?_
                    refine tr_iload dX12_readEvent_148 rfl ?_
                    refine q_iast dX12_readEvent_150 (kR57 hS2135.1 ta72) (ti_in (nR57 hS2135.1 ta72) (by exact om_b14f9e1e b39.2 b39.1 p40 w1891) (by exact om_00437d75 pre18 b31.2 b31.1 p32 b39.2 b39.1 p40 kd74 h1834 p1846 p1847 w1889 w1891 h1899 h1900 h1967 h1969 h2025 h2026 p2050 p2049 b2083.1 h2097 h2098)) hS2135 ta72 (by show (0 : Int) ≤ v2036.toInt ∧ v2036.toInt ≤ (240 : Int); exact om_6c1edee8 b31.2 b31.1 p32 w1889 h1965 h1967 h1969 p1981 p1983 h2028 h2030 p2042 p2046 p2047) rfl (by rfl) ?_
                    intro I2149 hS2150 e2152 f2151
                    have c2153 : I2149 a1 2 = v37 := (f2151 _ _ (fun q => by have z := ta1; rw [q.1, ta72] at z; exact absurd z (by decide))).trans c2138
                    have c2154 : I2149 a0 13 = v2079 := (f2151 _ _ (fun q => by have z := ta0; rw [q.1, ta72] at z; exact absurd z (by decide))).trans c2139
                    have c2155 : I2149 a0 9 = v2081 := (f2151 _ _ (fun q => by have z := ta0; rw [q.1, ta72] at z; exact absurd z (by decide))).trans c2140
                    have c2156 : I2149 a0 10 = v2084 := (f2151 _ _ (fun q => by have z := ta0; rw [q.1, ta72] at z; exact absurd z (by decide))).trans c2141
                    have c2157 : I2149 a0 11 = v2087 := (f2151 _ _ (fun q => by have z := ta0; rw [q.1, ta72] at z; exact absurd z (by decide))).trans c2142
                    have c2158 : I2149 a0 12 = v2091 := (f2151 _ _ (fun q => by have z := ta0; rw [q.1, ta72] at z; exact absurd z (by decide))).trans c2143
                    have c2159 : I2149 a0 8 = v2093 := (f2151 _ _ (fun q => by have z := ta0; rw [q.1, ta72] at z; exact absurd z (by decide))).trans c2144
                    have c2160 : I2149 a66 v37.toNatClampNeg = x1 := (f2151 _ _ (fun q => by have z := ta66; rw [q.1, ta72] at z; exact absurd z (by decide))).trans c2145
                    have c2161 : I2149 a68 v37.toNatClampNeg = v1915 := (f2151 _ _ (fun q => by have z := ta68; rw [q.1, ta72] at z; exact absurd z (by decide))).trans c2146
                    have hO2162 : FrO 14 a1 T I0 I2149 := hO2147.put f2151 ta72 (Or.inl (by decide))
                    have hM2163 : NmM I2149 R0 L2033 a1 gQ := NmM.kp1 hM2148 f2151 ta72 rfl rfl hS2135.1 ta1
                    refine tr_aload_n dX12_readEvent_151 rfl ?_
                    refine tr_getR dX12_readEvent_152 fl12_188 (kR15 hS2150.1 ta0) d2 ?_
                    refine tr_dup dX12_readEvent_155 rfl ?_
                    refine q_getI dX12_readEvent_156 fl12_265 (kR14 hS2150.1 ta1) c2153 ?_
                    refine q_iconst dX12_readEvent_159 (by decide) ?_
                    intro v2164 h2165
                    refine q_iaddE dX12_readEvent_160 (by intro j1 j2 j3 j4; exact om_a5745fee b39.2 b39.1 p40 w1891 h2165) ?_
                    intro v2166 h2167
                    refine q_putX dX12_readEvent_161 fl12_265 (kR14 hS2150.1 ta1) (Or.inl rfl) hS2150 ta1 (by decide +kernel) (hS2150.1.putE (i := v37.toNatClampNeg) ta1 d67 d69 (by rw [c2153]; exact (ti_nat (by exact om_74bf4760 b39.2 b39.1 p40 w1891 h2165 h2167)).symm) (by rw [c2153]; exact om_5a680f8c p40 w1891 h2165 h2167) (by exact om_dfb6bba8 pre18 b31.2 b31.1 p32 b39.2 b39.1 p40 kd74 h1834 p1846 p1847 w1889 w1891 h1899 h1900 h1967 h1969 h2025 h2026 p2050 p2049 b2083.1 h2097 h2098 h2165 h2167) (by rw [c2160, c2161]; exact om_30d49bde h1905 p1921 p1923)) ?_
                    intro I2168 hS2169 e2170 f2171
                    have c2172 : I2168 a0 13 = v2079 := (f2171 _ _ (fun q => absurd q.2 (by decide))).trans c2154
                    have c2173 : I2168 a0 9 = v2081 := (f2171 _ _ (fun q => absurd q.2 (by decide))).trans c2155
                    have c2174 : I2168 a0 10 = v2084 := (f2171 _ _ (fun q => absurd q.2 (by decide))).trans c2156
                    have c2175 : I2168 a0 11 = v2087 := (f2171 _ _ (fun q => absurd q.2 (by decide))).trans c2157
                    have c2176 : I2168 a0 12 = v2091 := (f2171 _ _ (fun q => absurd q.2 (by decide))).trans c2158
                    have c2177 : I2168 a0 8 = v2093 := (f2171 _ _ (fun q => absurd q.2 (by decide))).trans c2159
                    have c2178 : I2168 a66 v37.toNatClampNeg = x1 := (f2171 _ _ (fun q => by have z := ta66; rw [q.1, ta1] at z; exact absurd z (by decide))).trans c2160
                    have c2179 : I2168 a68 v37.toNatClampNeg = v1915 := (f2171 _ _ (fun q => by have z := ta68; rw [q.1, ta1] at z; exact absurd z (by decide))).trans c2161
                    have hO2180 : FrO 14 a1 T I0 I2168 := hO2162.put f2171 ta1 (Or.inr rfl)
                    have hM2181 : NmM I2168 R0 L2033 a1 gQ := NmM.kp1 hM2163 f2171 ta1 rfl rfl hS2150.1 ta1
                    have eF := hF.eq
                    have eP := hP.eq
                    have es2182 := evS_c2 (B := gB) (Q := gQ) (k := srt gB gs) (s := (tkN gB gs)) (by exact om_19aee7d3 pre18 kd74)
                    obtain ⟨v2183, c2184⟩ : ∃ v, I2168 a0 14 = v := ⟨_, rfl⟩
                    exact tr_vret hZ dX12_readEvent_164 rfl (by decide) (by decide) ⟨rfl, rfl, rfl, rfl, rfl, hS2169, (fun b hb => (Option.some.inj (d2.symm.trans hb)) ▸ ((((((((((FrM.rf (R := R0) (b := a1) (T := T)).st g1838 (by decide +kernel)).st g1913 (by decide +kernel)).st g1973 (by decide +kernel)).st g2034 (by decide +kernel)).pu f2106 (by decide) (by decide) d67).pu f2123 (by decide) (by decide) d69).pu f2136 (by decide) (by decide) d71).pu f2151 (by decide) (by decide) d73).put f2171 ta1 (by decide))), (fun dr hd => (Option.some.inj (d2.symm.trans hd)) ▸ hO2180), (Or.inl ⟨(by (try rw [w1888]); (try rw [es2182]); first | done | with_reducible assumption | omega), (fun q0 z0 => by obtain rfl := Option.some.inj ((d2).symm.trans z0); (try rw [w1888]); (try rw [es2182]); (try rw [((hS2169.cell ta1 (by decide +kernel)).trans c30)]); first | done | with_reducible assumption | exact om_2757374c p32 w1889), (fun q0 z0 => by obtain rfl := Option.some.inj ((d2).symm.trans z0); (try rw [w1888]); (try rw [es2182]); (try rw [((hS2169.cell ta1 (by decide +kernel)).trans c34)]); first | done | with_reducible assumption | exact om_2757374c p36 w1890), (fun q0 z0 => by obtain rfl := Option.some.inj ((d2).symm.trans z0); (try rw [w1888]); (try rw [es2182]); (try rw [e2170]); first | done | with_reducible assumption | exact om_7149e5be p40 w1891 h2165 h2167), (fun q0 z0 => by obtain rfl := Option.some.inj ((d2).symm.trans z0); (try rw [w1888]); (try rw [es2182]); (try rw [((hS2169.cell ta1 (by decide +kernel)).trans c42)]); first | done | with_reducible assumption | exact om_2757374c p44 w1892), (fun q0 z0 => by obtain rfl := Option.some.inj ((d2).symm.trans z0); (try rw [w1888]); (try rw [es2182]); (try rw [((hS2169.cell ta1 (by decide +kernel)).trans c46)]); first | done | with_reducible assumption | exact om_2757374c p48 w1893), (fun q0 z0 => by obtain rfl := Option.some.inj ((d2).symm.trans z0); (try rw [w1888]); (try rw [es2182]); (try rw [((hS2169.cell ta1 (by decide +kernel)).trans c50)]); first | done | with_reducible assumption | exact om_2757374c p52 w1894), (fun q0 z0 => by obtain rfl := Option.some.inj ((d2).symm.trans z0); (try rw [w1888]); (try rw [es2182]); (try rw [((hS2169.cell ta1 (by decide +kernel)).trans c54)]); first | done | with_reducible assumption | exact om_2757374c p56 w1895), (fun q0 z0 => by obtain rfl := Option.some.inj ((d2).symm.trans z0); (try rw [w1888]); (try rw [es2182]); (try rw [((hS2169.cell ta1 (by decide +kernel)).trans c58)]); first | done | with_reducible assumption | exact om_2757374c p60 w1897), (by (try rw [w1888]); (try rw [es2182]); (try rw [c2172]); (try rw [c65]); first | done | with_reducible assumption | exact om_751d021b p1848 p1925 p1985 p2048), (by (try rw [w1888]); (try rw [es2182]); (try rw [c2173]); first | done | with_reducible assumption | omega), (by (try rw [w1888]); (try rw [es2182]); (try rw [c2173]); first | done | with_reducible assumption | omega), (by (try rw [w1888]); (try rw [es2182]); (try rw [c2174]); first | done | with_reducible assumption | omega), (by (try rw [w1888]); (try rw [es2182]); (try rw [c2175]); first | done | with_reducible assumption | omega), (by (try rw [w1888]); (try rw [es2182]); (try rw [c2090]); first | done | assumption), (by (try rw [w1888]); (try rw [es2182]); (try rw [c2176]); first | done | assumption), (by (try rw [w1888]); (try rw [es2182]); (try rw [c2177]); first | done | assumption), hL2077, (fun b hb => (Option.some.inj (d2.symm.trans hb)) ▸ NmM.ln (NmM.bd (k := srt gB gs) hM2181 (by exact om_630feb56 pre18 kd74) (by exact om_1cc0d699 pre18 kd74)) rfl), (fun E b hb hE => by obtain rfl := Option.some.inj (d2.symm.trans hb); exact AlM.ev hE hW0 ta1 (by exact om_0b3f8417 pre18 kd74) (by exact om_42c31655 pre18 kd74) (by exact om_145f2c8e b39.2 b39.1 p40 w1891 h2165 h2167) (by exact om_eb3d6424 pre18 b31.2 b31.1 p32 b39.2 b39.1 p40 kd74 h1834 p1846 p1847 w1889 w1891 h1899 h1900 h1967 h1969 h2025 h2026 p2050 p2049 b2083.1 h2097 h2098 h2165 h2167) (hS2169.cell ta1 (by decide +kernel)) (RoF.st (ex := xr 54 57) hS2169 (by decide +kernel)) (fun f hf => match f, hf with | 0, _ => (fun a ha => by obtain rfl := Option.some.inj (d67.symm.trans ha); have zi : v37.toNatClampNeg = (gQ 2).toNat := congrArg Int.toNat (by exact om_acd7a85a p40); have ze := (Eq.trans ((f2171 _ _ (fun q => by have z := ta66; rw [q.1, ta1] at z; exact absurd z (by decide))).trans ((f2151 _ _ (fun q => by have z := ta66; rw [q.1, ta72] at z; exact absurd z (by decide))).trans ((f2136 _ _ (fun q => by have z := ta66; rw [q.1, ta70] at z; exact absurd z (by decide))).trans (f2123 _ _ (fun q => by have z := ta66; rw [q.1, ta68] at z; exact absurd z (by decide)))))) e2105); rw [zi] at ze; exact ⟨by rw [ze]; exact om_744a20de pre18, fun j hj => ((f2171 _ _ (fun q => by have z := ta66; rw [q.1, ta1] at z; exact absurd z (by decide))).trans ((f2151 _ _ (fun q => by have z := ta66; rw [q.1, ta72] at z; exact absurd z (by decide))).trans ((f2136 _ _ (fun q => by have z := ta66; rw [q.1, ta70] at z; exact absurd z (by decide))).trans ((f2123 _ _ (fun q => by have z := ta66; rw [q.1, ta68] at z; exact absurd z (by decide))).trans ((f2106 _ _ (fun q => hj (q.2.trans zi))).trans ((g2034.cell ta66 (wm_no (by decide +kernel))).trans ((g1973.cell ta66 (wm_no (by decide +kernel))).trans ((g1913.cell ta66 (wm_no (by decide +kernel))).trans (g1838.cell ta66 (wm_no (by decide +kernel)))))))))))⟩) | 1, _ => (fun a ha => by obtain rfl := Option.some.inj (d69.symm.trans ha); have zi : v37.toNatClampNeg = (gQ 2).toNat := congrArg Int.toNat (by exact om_acd7a85a p40); have ze := (Eq.trans ((f2171 _ _ (fun q => by have z := ta68; rw [q.1, ta1] at z; exact absurd z (by decide))).trans ((f2151 _ _ (fun q => by have z := ta68; rw [q.1, ta72] at z; exact absurd z (by decide))).trans (f2136 _ _ (fun q => by have z := ta68; rw [q.1, ta70] at z; exact absurd z (by decide))))) e2122); rw [zi] at ze; exact ⟨by rw [ze]; exact om_6f5a4bd9 pre18 kd74 h1905 p1921 p1923, fun j hj => ((f2171 _ _ (fun q => by have z := ta68; rw [q.1, ta1] at z; exact absurd z (by decide))).trans ((f2151 _ _ (fun q => by have z := ta68; rw [q.1, ta72] at z; exact absurd z (by decide))).trans ((f2136 _ _ (fun q => by have z := ta68; rw [q.1, ta70] at z; exact absurd z (by decide))).trans ((f2123 _ _ (fun q => hj (q.2.trans zi))).trans ((f2106 _ _ (fun q => by have z := ta68; rw [q.1, ta66] at z; exact absurd z (by decide))).trans ((g2034.cell ta68 (wm_no (by decide +kernel))).trans ((g1973.cell ta68 (wm_no (by decide +kernel))).trans ((g1913.cell ta68 (wm_no (by decide +kernel))).trans (g1838.cell ta68 (wm_no (by decide +kernel)))))))))))⟩) | 2, _ => (fun a ha => by obtain rfl := Option.some.inj (d71.symm.trans ha); have zi : v37.toNatClampNeg = (gQ 2).toNat := congrArg Int.toNat (by exact om_acd7a85a p40); have ze := (Eq.trans ((f2171 _ _ (fun q => by have z := ta70; rw [q.1, ta1] at z; exact absurd z (by decide))).trans (f2151 _ _ (fun q => by have z := ta70; rw [q.1, ta72] at z; exact absurd z (by decide)))) e2137); rw [zi] at ze; exact ⟨by rw [ze]; exact om_327953d0 pre18 kd74 p1981, fun j hj => ((f2171 _ _ (fun q => by have z := ta70; rw [q.1, ta1] at z; exact absurd z (by decide))).trans ((f2151 _ _ (fun q => by have z := ta70; rw [q.1, ta72] at z; exact absurd z (by decide))).trans ((f2136 _ _ (fun q => hj (q.2.trans zi))).trans ((f2123 _ _ (fun q => by have z := ta70; rw [q.1, ta68] at z; exact absurd z (by decide))).trans ((f2106 _ _ (fun q => by have z := ta70; rw [q.1, ta66] at z; exact absurd z (by decide))).trans ((g2034.cell ta70 (wm_no (by decide +kernel))).trans ((g1973.cell ta70 (wm_no (by decide +kernel))).trans ((g1913.cell ta70 (wm_no (by decide +kernel))).trans (g1838.cell ta70 (wm_no (by decide +kernel)))))))))))⟩) | 3, _ => (fun a ha => by obtain rfl := Option.some.inj (d73.symm.trans ha); have zi : v37.toNatClampNeg = (gQ 2).toNat := congrArg Int.toNat (by exact om_acd7a85a p40); have ze := (Eq.trans (f2171 _ _ (fun q => by have z := ta72; rw [q.1, ta1] at z; exact absurd z (by decide))) e2152); rw [zi] at ze; exact ⟨by rw [ze]; exact om_9c618b60 pre18 kd74 p2042, fun j hj => ((f2171 _ _ (fun q => by have z := ta72; rw [q.1, ta1] at z; exact absurd z (by decide))).trans ((f2151 _ _ (fun q => hj (q.2.trans zi))).trans ((f2136 _ _ (fun q => by have z := ta72; rw [q.1, ta70] at z; exact absurd z (by decide))).trans ((f2123 _ _ (fun q => by have z := ta72; rw [q.1, ta68] at z; exact absurd z (by decide))).trans ((f2106 _ _ (fun q => by have z := ta72; rw [q.1, ta66] at z; exact absurd z (by decide))).trans ((g2034.cell ta72 (wm_no (by decide +kernel))).trans ((g1973.cell ta72 (wm_no (by decide +kernel))).trans ((g1913.cell ta72 (wm_no (by decide +kernel))).trans (g1838.cell ta72 (wm_no (by decide +kernel)))))))))))⟩) | f + 4, h => absurd h (by exact om_551ec4b1 h))), trivial⟩), trivial⟩
                  · skip
                    exfalso; exact om_99cda0b7 p2050 p2049 b2083.1 h2097 h2098
                · skip
                  obtain ⟨v2185, c2186⟩ : ∃ v, I2031 a0 9 = v := ⟨_, rfl⟩
                  have b2187 := iv15_9 hS2039.1 ta0 c2186
                  rw [c2186] at p2059
                  obtain ⟨v2188, c2189⟩ : ∃ v, I2031 a0 13 = v := ⟨_, rfl⟩
                  rw [c2189] at p2060
                  obtain ⟨v2190, c2191⟩ : ∃ v, I2031 a0 14 = v := ⟨_, rfl⟩
                  rw [c2191] at p2061
                  replace hF := hF.pos (by exact om_5c733ef2 p2058)
                  replace hP := hP.pos (by exact om_5c733ef2 p2058)
                  refine tr_istore dX12_readEvent_86 (by decide) (by decide) ?_
                  refine sf_oE88 hE hZ hS2039.1 (gB) ta0 (by (try rw [c2186]); first | done | with_reducible assumption | omega) ⟨_, d2⟩ rfl rfl rfl rfl rfl ?_
                  rintro I2192 R2193 L2194 ⟨g2195, p2196, p2197, p2198, rp2199, -⟩
                  obtain rfl : R0 = R2193 := funext fun a => funext fun j => (g2195.2.2 a j (wm_no rfl)).symm
                  have hS2200 := hS2039.tr g2195 (by decide +kernel) (by decide +kernel)
                  have c2201 : I2192 a1 2 = v37 := (g2195.cell ta1 (by decide +kernel)).trans c2040
                  have c2202 : I2192 a0 9 = v2185 := (g2195.cell ta0 (by decide +kernel)).trans c2186
                  have c2203 : I2192 a0 13 = v2188 := (g2195.cell ta0 (by decide +kernel)).trans c2189
                  have c2204 : I2192 a0 14 = v2190 := (g2195.cell ta0 (by decide +kernel)).trans c2191
                  have hO2205 : FrO 14 a1 T I0 I2192 := hO2041.st g2195 (by decide +kernel)
                  rw [c2202] at p2196
                  rw [c2203] at p2197
                  rw [c2189] at p2197
                  rw [c2204] at p2198
                  rw [c2191] at p2198
                  have eF := hF.eq
                  have eP := hP.eq
                  obtain ⟨v2206, c2207⟩ : ∃ v, I2192 a0 10 = v := ⟨_, rfl⟩
                  have b2208 := iv15_10 hS2200.1 ta0 c2207
                  obtain ⟨v2209, c2210⟩ : ∃ v, I2192 a0 11 = v := ⟨_, rfl⟩
                  obtain ⟨y2211, c2212⟩ : ∃ v, L2194 a0 15 = v := ⟨_, rfl⟩
                  obtain ⟨v2213, c2214⟩ : ∃ v, I2192 a0 12 = v := ⟨_, rfl⟩
                  obtain ⟨v2215, c2216⟩ : ∃ v, I2192 a0 8 = v := ⟨_, rfl⟩
                  have b2217 := iv15_8 hS2200.1 ta0 c2216
                  exact ⟨rfl, rfl, rfl, rfl, rfl, hS2200, (fun b hb => (Option.some.inj (d2.symm.trans hb)) ▸ ((((((FrM.rf (R := R0) (b := a1) (T := T)).st g1838 (by decide +kernel)).st g1913 (by decide +kernel)).st g1973 (by decide +kernel)).st g2034 (by decide +kernel)).st g2195 (by decide +kernel))), (fun dr hd => (Option.some.inj (d2.symm.trans hd)) ▸ hO2205), (Or.inr (⟨(by first | done | with_reducible assumption | exact om_7fac24c5 eF), (by (try rw [c2202]); first | done | with_reducible assumption | omega), (by (try rw [c2203]); first | done | with_reducible assumption | exact om_3345b898 p2060 eF), (by (try rw [c2204]); first | done | with_reducible assumption | exact om_2757374c p2061 eP), trivial⟩)), trivial⟩
                · skip
                  obtain ⟨v2218, c2219⟩ : ∃ v, I2031 a0 9 = v := ⟨_, rfl⟩
                  have b2220 := iv15_9 hS2039.1 ta0 c2219
                  rw [c2219] at p2066
                  obtain ⟨v2221, c2222⟩ : ∃ v, I2031 a0 13 = v := ⟨_, rfl⟩
                  rw [c2222] at p2067
                  obtain ⟨v2223, c2224⟩ : ∃ v, I2031 a0 14 = v := ⟨_, rfl⟩
                  rw [c2224] at p2068
                  replace hF := hF.neg (by exact om_04941ac6 p2063 p2064)
                  replace hP := hP.neg (by exact om_04941ac6 p2063 p2064)
                  replace hF := hF.pos (by exact om_73cc8e29 p2065)
                  replace hP := hP.pos (by exact om_73cc8e29 p2065)
                  refine tr_istore dX12_readEvent_86 (by decide) (by decide) ?_
                  refine sf_oE88 hE hZ hS2039.1 (gB) ta0 (by (try rw [c2219]); first | done | with_reducible assumption | omega) ⟨_, d2⟩ rfl rfl rfl rfl rfl ?_
                  rintro I2225 R2226 L2227 ⟨g2228, p2229, p2230, p2231, rp2232, -⟩
                  obtain rfl : R0 = R2226 := funext fun a => funext fun j => (g2228.2.2 a j (wm_no rfl)).symm
                  have hS2233 := hS2039.tr g2228 (by decide +kernel) (by decide +kernel)
                  have c2234 : I2225 a1 2 = v37 := (g2228.cell ta1 (by decide +kernel)).trans c2040
                  have c2235 : I2225 a0 9 = v2218 := (g2228.cell ta0 (by decide +kernel)).trans c2219
                  have c2236 : I2225 a0 13 = v2221 := (g2228.cell ta0 (by decide +kernel)).trans c2222
                  have c2237 : I2225 a0 14 = v2223 := (g2228.cell ta0 (by decide +kernel)).trans c2224
                  have hO2238 : FrO 14 a1 T I0 I2225 := hO2041.st g2228 (by decide +kernel)
                  rw [c2235] at p2229
                  rw [c2236] at p2230
                  rw [c2222] at p2230
                  rw [c2237] at p2231
                  rw [c2224] at p2231
                  have eF := hF.eq
                  have eP := hP.eq
                  obtain ⟨v2239, c2240⟩ : ∃ v, I2225 a0 10 = v := ⟨_, rfl⟩
                  have b2241 := iv15_10 hS2233.1 ta0 c2240
                  obtain ⟨v2242, c2243⟩ : ∃ v, I2225 a0 11 = v := ⟨_, rfl⟩
                  obtain ⟨y2244, c2245⟩ : ∃ v, L2227 a0 15 = v := ⟨_, rfl⟩
                  obtain ⟨v2246, c2247⟩ : ∃ v, I2225 a0 12 = v := ⟨_, rfl⟩
                  obtain ⟨v2248, c2249⟩ : ∃ v, I2225 a0 8 = v := ⟨_, rfl⟩
                  have b2250 := iv15_8 hS2233.1 ta0 c2249
                  exact ⟨rfl, rfl, rfl, rfl, rfl, hS2233, (fun b hb => (Option.some.inj (d2.symm.trans hb)) ▸ ((((((FrM.rf (R := R0) (b := a1) (T := T)).st g1838 (by decide +kernel)).st g1913 (by decide +kernel)).st g1973 (by decide +kernel)).st g2034 (by decide +kernel)).st g2228 (by decide +kernel))), (fun dr hd => (Option.some.inj (d2.symm.trans hd)) ▸ hO2238), (Or.inr (⟨(by first | done | with_reducible assumption | exact om_7fac24c5 eF), (by (try rw [c2235]); first | done | with_reducible assumption | omega), (by (try rw [c2236]); first | done | with_reducible assumption | exact om_3345b898 p2067 eF), (by (try rw [c2237]); first | done | with_reducible assumption | exact om_2757374c p2068 eP), trivial⟩)), trivial⟩
                · skip
                  obtain ⟨v2251, c2252⟩ : ∃ v, I2031 a0 9 = v := ⟨_, rfl⟩
                  have b2253 := iv15_9 hS2039.1 ta0 c2252
                  rw [c2252] at p2074
                  obtain ⟨v2254, c2255⟩ : ∃ v, I2031 a0 13 = v := ⟨_, rfl⟩
                  rw [c2255] at p2075
                  obtain ⟨v2256, c2257⟩ : ∃ v, I2031 a0 14 = v := ⟨_, rfl⟩
                  rw [c2257] at p2076
                  replace hF := hF.neg (by exact om_04941ac6 p2070 p2071)
                  replace hP := hP.neg (by exact om_04941ac6 p2070 p2071)
                  replace hF := hF.neg (by exact om_10ed11b5 p2072)
                  replace hP := hP.neg (by exact om_10ed11b5 p2072)
                  replace hF := hF.pos (by exact om_ecc016f6 p32 w1889 h1967 h1969 p1981 h2028 h2030 p2073)
                  replace hP := hP.pos (by exact om_ecc016f6 p32 w1889 h1967 h1969 p1981 h2028 h2030 p2073)
                  refine tr_istore dX12_readEvent_86 (by decide) (by decide) ?_
                  refine sf_oE88 hE hZ hS2039.1 (gB) ta0 (by (try rw [c2252]); first | done | with_reducible assumption | omega) ⟨_, d2⟩ rfl rfl rfl rfl rfl ?_
                  rintro I2258 R2259 L2260 ⟨g2261, p2262, p2263, p2264, rp2265, -⟩
                  obtain rfl : R0 = R2259 := funext fun a => funext fun j => (g2261.2.2 a j (wm_no rfl)).symm
                  have hS2266 := hS2039.tr g2261 (by decide +kernel) (by decide +kernel)
                  have c2267 : I2258 a1 2 = v37 := (g2261.cell ta1 (by decide +kernel)).trans c2040
                  have c2268 : I2258 a0 9 = v2251 := (g2261.cell ta0 (by decide +kernel)).trans c2252
                  have c2269 : I2258 a0 13 = v2254 := (g2261.cell ta0 (by decide +kernel)).trans c2255
                  have c2270 : I2258 a0 14 = v2256 := (g2261.cell ta0 (by decide +kernel)).trans c2257
                  have hO2271 : FrO 14 a1 T I0 I2258 := hO2041.st g2261 (by decide +kernel)
                  rw [c2268] at p2262
                  rw [c2269] at p2263
                  rw [c2255] at p2263
                  rw [c2270] at p2264
                  rw [c2257] at p2264
                  have eF := hF.eq
                  have eP := hP.eq
                  obtain ⟨v2272, c2273⟩ : ∃ v, I2258 a0 10 = v := ⟨_, rfl⟩
                  have b2274 := iv15_10 hS2266.1 ta0 c2273
                  obtain ⟨v2275, c2276⟩ : ∃ v, I2258 a0 11 = v := ⟨_, rfl⟩
                  obtain ⟨y2277, c2278⟩ : ∃ v, L2260 a0 15 = v := ⟨_, rfl⟩
                  obtain ⟨v2279, c2280⟩ : ∃ v, I2258 a0 12 = v := ⟨_, rfl⟩
                  obtain ⟨v2281, c2282⟩ : ∃ v, I2258 a0 8 = v := ⟨_, rfl⟩
                  have b2283 := iv15_8 hS2266.1 ta0 c2282
                  exact ⟨rfl, rfl, rfl, rfl, rfl, hS2266, (fun b hb => (Option.some.inj (d2.symm.trans hb)) ▸ ((((((FrM.rf (R := R0) (b := a1) (T := T)).st g1838 (by decide +kernel)).st g1913 (by decide +kernel)).st g1973 (by decide +kernel)).st g2034 (by decide +kernel)).st g2261 (by decide +kernel))), (fun dr hd => (Option.some.inj (d2.symm.trans hd)) ▸ hO2271), (Or.inr (⟨(by first | done | with_reducible assumption | exact om_7b84bd42 eF), (by (try rw [c2268]); first | done | with_reducible assumption | omega), (by (try rw [c2269]); first | done | with_reducible assumption | exact om_46d5da87 p2075 eF), (by (try rw [c2270]); first | done | with_reducible assumption | exact om_2757374c p2076 eP), trivial⟩)), trivial⟩
              · skip
                exfalso; exact om_f827e096 pre18 kd74 h2025 h2026
            · skip
              obtain ⟨v2284, c2285⟩ : ∃ v, I1970 a0 9 = v := ⟨_, rfl⟩
              have b2286 := iv15_9 hS1978.1 ta0 c2285
              rw [c2285] at p1996
              obtain ⟨v2287, c2288⟩ : ∃ v, I1970 a0 13 = v := ⟨_, rfl⟩
              rw [c2288] at p1997
              obtain ⟨v2289, c2290⟩ : ∃ v, I1970 a0 14 = v := ⟨_, rfl⟩
              rw [c2290] at p1998
              replace hF := hF.pos (by exact om_73cc8e29 p1995)
              replace hP := hP.pos (by exact om_73cc8e29 p1995)
              refine tr_istore_n dX12_readEvent_57 (by decide) (by decide) ?_
              refine sf_oE58 hE hZ hS1978.1 (gB) ta0 (by (try rw [c2285]); first | done | with_reducible assumption | omega) ⟨_, d2⟩ rfl rfl rfl rfl ?_
              rintro I2291 R2292 L2293 ⟨g2294, p2295, p2296, p2297, rp2298, -⟩
              obtain rfl : R0 = R2292 := funext fun a => funext fun j => (g2294.2.2 a j (wm_no rfl)).symm
              have hS2299 := hS1978.tr g2294 (by decide +kernel) (by decide +kernel)
              have c2300 : I2291 a1 2 = v37 := (g2294.cell ta1 (by decide +kernel)).trans c1979
              have hO2301 : FrO 14 a1 T I0 I2291 := hO1980.st g2294 (by decide +kernel)
              obtain ⟨v2302, c2303⟩ : ∃ v, I2291 a0 9 = v := ⟨_, rfl⟩
              have b2304 := iv15_9 hS2299.1 ta0 c2303
              rw [c2303] at p2295
              obtain ⟨v2305, c2306⟩ : ∃ v, I2291 a0 13 = v := ⟨_, rfl⟩
              rw [c2306] at p2296
              rw [c2288] at p2296
              obtain ⟨v2307, c2308⟩ : ∃ v, I2291 a0 14 = v := ⟨_, rfl⟩
              rw [c2308] at p2297
              rw [c2290] at p2297
              have eF := hF.eq
              have eP := hP.eq
              obtain ⟨v2309, c2310⟩ : ∃ v, I2291 a0 10 = v := ⟨_, rfl⟩
              have b2311 := iv15_10 hS2299.1 ta0 c2310
              obtain ⟨v2312, c2313⟩ : ∃ v, I2291 a0 11 = v := ⟨_, rfl⟩
              obtain ⟨y2314, c2315⟩ : ∃ v, L2293 a0 15 = v := ⟨_, rfl⟩
              obtain ⟨v2316, c2317⟩ : ∃ v, I2291 a0 12 = v := ⟨_, rfl⟩
              obtain ⟨v2318, c2319⟩ : ∃ v, I2291 a0 8 = v := ⟨_, rfl⟩
              have b2320 := iv15_8 hS2299.1 ta0 c2319
              exact ⟨rfl, rfl, rfl, rfl, rfl, hS2299, (fun b hb => (Option.some.inj (d2.symm.trans hb)) ▸ (((((FrM.rf (R := R0) (b := a1) (T := T)).st g1838 (by decide +kernel)).st g1913 (by decide +kernel)).st g1973 (by decide +kernel)).st g2294 (by decide +kernel))), (fun dr hd => (Option.some.inj (d2.symm.trans hd)) ▸ hO2301), (Or.inr (⟨(by first | done | with_reducible assumption | exact om_7fac24c5 eF), (by (try rw [c2303]); first | done | with_reducible assumption | omega), (by (try rw [c2306]); first | done | with_reducible assumption | exact om_9adad658 p1997 p2296 eF), (by (try rw [c2308]); first | done | with_reducible assumption | exact om_3998a42e p1998 p2297 eP), trivial⟩)), trivial⟩
            · skip
              obtain ⟨v2321, c2322⟩ : ∃ v, I1970 a0 9 = v := ⟨_, rfl⟩
              have b2323 := iv15_9 hS1978.1 ta0 c2322
              rw [c2322] at p2002
              obtain ⟨v2324, c2325⟩ : ∃ v, I1970 a0 13 = v := ⟨_, rfl⟩
              rw [c2325] at p2003
              obtain ⟨v2326, c2327⟩ : ∃ v, I1970 a0 14 = v := ⟨_, rfl⟩
              rw [c2327] at p2004
              replace hF := hF.neg (by exact om_10ed11b5 p2000)
              replace hP := hP.neg (by exact om_10ed11b5 p2000)
              replace hF := hF.pos (by exact om_41eb13e5 p32 w1889 h1965 h1967 h1969 p2001)
              replace hP := hP.pos (by exact om_41eb13e5 p32 w1889 h1965 h1967 h1969 p2001)
              refine tr_istore_n dX12_readEvent_57 (by decide) (by decide) ?_
              refine sf_oE58 hE hZ hS1978.1 (gB) ta0 (by (try rw [c2322]); first | done | with_reducible assumption | omega) ⟨_, d2⟩ rfl rfl rfl rfl ?_
              rintro I2328 R2329 L2330 ⟨g2331, p2332, p2333, p2334, rp2335, -⟩
              obtain rfl : R0 = R2329 := funext fun a => funext fun j => (g2331.2.2 a j (wm_no rfl)).symm
              have hS2336 := hS1978.tr g2331 (by decide +kernel) (by decide +kernel)
              have c2337 : I2328 a1 2 = v37 := (g2331.cell ta1 (by decide +kernel)).trans c1979
              have hO2338 : FrO 14 a1 T I0 I2328 := hO1980.st g2331 (by decide +kernel)
              obtain ⟨v2339, c2340⟩ : ∃ v, I2328 a0 9 = v := ⟨_, rfl⟩
              have b2341 := iv15_9 hS2336.1 ta0 c2340
              rw [c2340] at p2332
              obtain ⟨v2342, c2343⟩ : ∃ v, I2328 a0 13 = v := ⟨_, rfl⟩
              rw [c2343] at p2333
              rw [c2325] at p2333
              obtain ⟨v2344, c2345⟩ : ∃ v, I2328 a0 14 = v := ⟨_, rfl⟩
              rw [c2345] at p2334
              rw [c2327] at p2334
              have eF := hF.eq
              have eP := hP.eq
              obtain ⟨v2346, c2347⟩ : ∃ v, I2328 a0 10 = v := ⟨_, rfl⟩
              have b2348 := iv15_10 hS2336.1 ta0 c2347
              obtain ⟨v2349, c2350⟩ : ∃ v, I2328 a0 11 = v := ⟨_, rfl⟩
              obtain ⟨y2351, c2352⟩ : ∃ v, L2330 a0 15 = v := ⟨_, rfl⟩
              obtain ⟨v2353, c2354⟩ : ∃ v, I2328 a0 12 = v := ⟨_, rfl⟩
              obtain ⟨v2355, c2356⟩ : ∃ v, I2328 a0 8 = v := ⟨_, rfl⟩
              have b2357 := iv15_8 hS2336.1 ta0 c2356
              exact ⟨rfl, rfl, rfl, rfl, rfl, hS2336, (fun b hb => (Option.some.inj (d2.symm.trans hb)) ▸ (((((FrM.rf (R := R0) (b := a1) (T := T)).st g1838 (by decide +kernel)).st g1913 (by decide +kernel)).st g1973 (by decide +kernel)).st g2331 (by decide +kernel))), (fun dr hd => (Option.some.inj (d2.symm.trans hd)) ▸ hO2338), (Or.inr (⟨(by first | done | with_reducible assumption | exact om_7b84bd42 eF), (by (try rw [c2340]); first | done | with_reducible assumption | omega), (by (try rw [c2343]); first | done | with_reducible assumption | exact om_4510ffdb p2003 p2333 eF), (by (try rw [c2345]); first | done | with_reducible assumption | exact om_3998a42e p2004 p2334 eP), trivial⟩)), trivial⟩
          · skip
            obtain ⟨v2358, c2359⟩ : ∃ v, I1910 a0 9 = v := ⟨_, rfl⟩
            have b2360 := iv15_9 hS1918.1 ta0 c2359
            rw [c2359] at p1936
            obtain ⟨v2361, c2362⟩ : ∃ v, I1910 a0 13 = v := ⟨_, rfl⟩
            rw [c2362] at p1937
            obtain ⟨v2363, c2364⟩ : ∃ v, I1910 a0 14 = v := ⟨_, rfl⟩
            rw [c2364] at p1938
            replace hF := hF.pos (by exact om_73cc8e29 p1935)
            replace hP := hP.pos (by exact om_73cc8e29 p1935)
            refine tr_goto 42 dX12_readEvent_37 (by decide) ?_
            refine tr_istore_n dX12_readEvent_42 (by decide) (by decide) ?_
            refine sf_oE43 hE hZ hS1918.1 (gB) ta0 (by (try rw [c2359]); first | done | with_reducible assumption | omega) ⟨_, d2⟩ rfl rfl rfl ?_
            rintro I2365 R2366 L2367 ⟨g2368, p2369, p2370, p2371, rp2372, -⟩
            obtain rfl : R0 = R2366 := funext fun a => funext fun j => (g2368.2.2 a j (wm_no rfl)).symm
            have hS2373 := hS1918.tr g2368 (by decide +kernel) (by decide +kernel)
            have c2374 : I2365 a1 2 = v37 := (g2368.cell ta1 (by decide +kernel)).trans c1919
            have hO2375 : FrO 14 a1 T I0 I2365 := hO1920.st g2368 (by decide +kernel)
            obtain ⟨v2376, c2377⟩ : ∃ v, I2365 a0 9 = v := ⟨_, rfl⟩
            have b2378 := iv15_9 hS2373.1 ta0 c2377
            rw [c2377] at p2369
            obtain ⟨v2379, c2380⟩ : ∃ v, I2365 a0 13 = v := ⟨_, rfl⟩
            rw [c2380] at p2370
            rw [c2362] at p2370
            obtain ⟨v2381, c2382⟩ : ∃ v, I2365 a0 14 = v := ⟨_, rfl⟩
            rw [c2382] at p2371
            rw [c2364] at p2371
            have eF := hF.eq
            have eP := hP.eq
            obtain ⟨v2383, c2384⟩ : ∃ v, I2365 a0 10 = v := ⟨_, rfl⟩
            have b2385 := iv15_10 hS2373.1 ta0 c2384
            obtain ⟨v2386, c2387⟩ : ∃ v, I2365 a0 11 = v := ⟨_, rfl⟩
            obtain ⟨y2388, c2389⟩ : ∃ v, L2367 a0 15 = v := ⟨_, rfl⟩
            obtain ⟨v2390, c2391⟩ : ∃ v, I2365 a0 12 = v := ⟨_, rfl⟩
            obtain ⟨v2392, c2393⟩ : ∃ v, I2365 a0 8 = v := ⟨_, rfl⟩
            have b2394 := iv15_8 hS2373.1 ta0 c2393
            exact ⟨rfl, rfl, rfl, rfl, rfl, hS2373, (fun b hb => (Option.some.inj (d2.symm.trans hb)) ▸ ((((FrM.rf (R := R0) (b := a1) (T := T)).st g1838 (by decide +kernel)).st g1913 (by decide +kernel)).st g2368 (by decide +kernel))), (fun dr hd => (Option.some.inj (d2.symm.trans hd)) ▸ hO2375), (Or.inr (⟨(by first | done | with_reducible assumption | exact om_7fac24c5 eF), (by (try rw [c2377]); first | done | with_reducible assumption | omega), (by (try rw [c2380]); first | done | with_reducible assumption | exact om_9adad658 p1937 p2370 eF), (by (try rw [c2382]); first | done | with_reducible assumption | exact om_3998a42e p1938 p2371 eP), trivial⟩)), trivial⟩
          · skip
            obtain ⟨v2395, c2396⟩ : ∃ v, I1910 a0 9 = v := ⟨_, rfl⟩
            have b2397 := iv15_9 hS1918.1 ta0 c2396
            rw [c2396] at p1942
            obtain ⟨v2398, c2399⟩ : ∃ v, I1910 a0 13 = v := ⟨_, rfl⟩
            rw [c2399] at p1943
            obtain ⟨v2400, c2401⟩ : ∃ v, I1910 a0 14 = v := ⟨_, rfl⟩
            rw [c2401] at p1944
            replace hF := hF.neg (by exact om_10ed11b5 p1940)
            replace hP := hP.neg (by exact om_10ed11b5 p1940)
            replace hF := hF.pos (by exact om_41eb13e5 p36 w1890 h1905 h1907 h1909 p1941)
            replace hP := hP.pos (by exact om_41eb13e5 p36 w1890 h1905 h1907 h1909 p1941)
            refine tr_goto 42 dX12_readEvent_37 (by decide) ?_
            refine tr_istore_n dX12_readEvent_42 (by decide) (by decide) ?_
            refine sf_oE43 hE hZ hS1918.1 (gB) ta0 (by (try rw [c2396]); first | done | with_reducible assumption | omega) ⟨_, d2⟩ rfl rfl rfl ?_
            rintro I2402 R2403 L2404 ⟨g2405, p2406, p2407, p2408, rp2409, -⟩
            obtain rfl : R0 = R2403 := funext fun a => funext fun j => (g2405.2.2 a j (wm_no rfl)).symm
            have hS2410 := hS1918.tr g2405 (by decide +kernel) (by decide +kernel)
            have c2411 : I2402 a1 2 = v37 := (g2405.cell ta1 (by decide +kernel)).trans c1919
            have hO2412 : FrO 14 a1 T I0 I2402 := hO1920.st g2405 (by decide +kernel)
            obtain ⟨v2413, c2414⟩ : ∃ v, I2402 a0 9 = v := ⟨_, rfl⟩
            have b2415 := iv15_9 hS2410.1 ta0 c2414
            rw [c2414] at p2406
            obtain ⟨v2416, c2417⟩ : ∃ v, I2402 a0 13 = v := ⟨_, rfl⟩
            rw [c2417] at p2407
            rw [c2399] at p2407
            obtain ⟨v2418, c2419⟩ : ∃ v, I2402 a0 14 = v := ⟨_, rfl⟩
            rw [c2419] at p2408
            rw [c2401] at p2408
            have eF := hF.eq
            have eP := hP.eq
            obtain ⟨v2420, c2421⟩ : ∃ v, I2402 a0 10 = v := ⟨_, rfl⟩
            have b2422 := iv15_10 hS2410.1 ta0 c2421
            obtain ⟨v2423, c2424⟩ : ∃ v, I2402 a0 11 = v := ⟨_, rfl⟩
            obtain ⟨y2425, c2426⟩ : ∃ v, L2404 a0 15 = v := ⟨_, rfl⟩
            obtain ⟨v2427, c2428⟩ : ∃ v, I2402 a0 12 = v := ⟨_, rfl⟩
            obtain ⟨v2429, c2430⟩ : ∃ v, I2402 a0 8 = v := ⟨_, rfl⟩
            have b2431 := iv15_8 hS2410.1 ta0 c2430
            exact ⟨rfl, rfl, rfl, rfl, rfl, hS2410, (fun b hb => (Option.some.inj (d2.symm.trans hb)) ▸ ((((FrM.rf (R := R0) (b := a1) (T := T)).st g1838 (by decide +kernel)).st g1913 (by decide +kernel)).st g2405 (by decide +kernel))), (fun dr hd => (Option.some.inj (d2.symm.trans hd)) ▸ hO2412), (Or.inr (⟨(by first | done | with_reducible assumption | exact om_7b84bd42 eF), (by (try rw [c2414]); first | done | with_reducible assumption | omega), (by (try rw [c2417]); first | done | with_reducible assumption | exact om_4510ffdb p1943 p2407 eF), (by (try rw [c2419]); first | done | with_reducible assumption | exact om_3998a42e p1944 p2408 eP), trivial⟩)), trivial⟩
    · skip
      obtain ⟨v2432, c2433⟩ : ∃ v, I1835 a0 9 = v := ⟨_, rfl⟩
      have b2434 := iv15_9 hS1843.1 ta0 c2433
      rw [c2433] at p1858
      obtain ⟨v2435, c2436⟩ : ∃ v, I1835 a0 13 = v := ⟨_, rfl⟩
      rw [c2436] at p1859
      obtain ⟨v2437, c2438⟩ : ∃ v, I1835 a0 14 = v := ⟨_, rfl⟩
      rw [c2438] at p1860
      have p2439 := p61
      unfold Q7M at p2439
      replace hF := hF.pos (by exact om_aff49800 pre18 p40 kd74 h1834 p1857)
      replace hP := hP.pos (by exact om_aff49800 pre18 p40 kd74 h1834 p1857)
      clear p2439
      refine sf_oE13 hE hZ hS1843.1 (gB) ta0 (by (try rw [c2433]); first | done | with_reducible assumption | omega) ⟨_, d2⟩ rfl rfl ?_
      rintro I2440 R2441 L2442 ⟨g2443, p2444, p2445, p2446, rp2447, -⟩
      obtain rfl : R0 = R2441 := funext fun a => funext fun j => (g2443.2.2 a j (wm_no rfl)).symm
      have hS2448 := hS1843.tr g2443 (by decide +kernel) (by decide +kernel)
      have c2449 : I2440 a1 2 = v37 := (g2443.cell ta1 (by decide +kernel)).trans c1844
      have hO2450 : FrO 14 a1 T I0 I2440 := hO1845.st g2443 (by decide +kernel)
      obtain ⟨v2451, c2452⟩ : ∃ v, I2440 a0 9 = v := ⟨_, rfl⟩
      have b2453 := iv15_9 hS2448.1 ta0 c2452
      rw [c2452] at p2444
      obtain ⟨v2454, c2455⟩ : ∃ v, I2440 a0 13 = v := ⟨_, rfl⟩
      rw [c2455] at p2445
      rw [c2436] at p2445
      obtain ⟨v2456, c2457⟩ : ∃ v, I2440 a0 14 = v := ⟨_, rfl⟩
      rw [c2457] at p2446
      rw [c2438] at p2446
      have eF := hF.eq
      have eP := hP.eq
      obtain ⟨v2458, c2459⟩ : ∃ v, I2440 a0 10 = v := ⟨_, rfl⟩
      have b2460 := iv15_10 hS2448.1 ta0 c2459
      obtain ⟨v2461, c2462⟩ : ∃ v, I2440 a0 11 = v := ⟨_, rfl⟩
      obtain ⟨y2463, c2464⟩ : ∃ v, L2442 a0 15 = v := ⟨_, rfl⟩
      obtain ⟨v2465, c2466⟩ : ∃ v, I2440 a0 12 = v := ⟨_, rfl⟩
      obtain ⟨v2467, c2468⟩ : ∃ v, I2440 a0 8 = v := ⟨_, rfl⟩
      have b2469 := iv15_8 hS2448.1 ta0 c2468
      exact ⟨rfl, rfl, rfl, rfl, rfl, hS2448, (fun b hb => (Option.some.inj (d2.symm.trans hb)) ▸ (((FrM.rf (R := R0) (b := a1) (T := T)).st g1838 (by decide +kernel)).st g2443 (by decide +kernel))), (fun dr hd => (Option.some.inj (d2.symm.trans hd)) ▸ hO2450), (Or.inr (⟨(by first | done | with_reducible assumption | exact om_64c62efe eF), (by (try rw [c2452]); first | done | with_reducible assumption | omega), (by (try rw [c2455]); first | done | with_reducible assumption | exact om_7fd518bd p1859 p2445 eF), (by (try rw [c2457]); first | done | with_reducible assumption | exact om_8e6888af p11 p1860 p2446 eP), trivial⟩)), trivial⟩
    · skip
      obtain ⟨v2470, c2471⟩ : ∃ v, I1835 a0 9 = v := ⟨_, rfl⟩
      have b2472 := iv15_9 hS1843.1 ta0 c2471
      rw [c2471] at p1863
      obtain ⟨v2473, c2474⟩ : ∃ v, I1835 a0 13 = v := ⟨_, rfl⟩
      rw [c2474] at p1864
      obtain ⟨v2475, c2476⟩ : ∃ v, I1835 a0 14 = v := ⟨_, rfl⟩
      rw [c2476] at p1865
      have p2477 := p61
      unfold Q7M at p2477
      replace hF := hF.neg (by exact om_f668aee8 pre18 b39.2 b39.1 p40 kd74 h1834 p1861 p1862 p2477)
      replace hP := hP.neg (by exact om_f668aee8 pre18 b39.2 b39.1 p40 kd74 h1834 p1861 p1862 p2477)
      replace hF := hF.pos (by exact om_28200d21 pre18 kd74 p1862 p2477)
      replace hP := hP.pos (by exact om_28200d21 pre18 kd74 p1862 p2477)
      clear p2477
      refine sf_oE13 hE hZ hS1843.1 (gB) ta0 (by (try rw [c2471]); first | done | with_reducible assumption | omega) ⟨_, d2⟩ rfl rfl ?_
      rintro I2478 R2479 L2480 ⟨g2481, p2482, p2483, p2484, rp2485, -⟩
      obtain rfl : R0 = R2479 := funext fun a => funext fun j => (g2481.2.2 a j (wm_no rfl)).symm
      have hS2486 := hS1843.tr g2481 (by decide +kernel) (by decide +kernel)
      have c2487 : I2478 a1 2 = v37 := (g2481.cell ta1 (by decide +kernel)).trans c1844
      have hO2488 : FrO 14 a1 T I0 I2478 := hO1845.st g2481 (by decide +kernel)
      obtain ⟨v2489, c2490⟩ : ∃ v, I2478 a0 9 = v := ⟨_, rfl⟩
      have b2491 := iv15_9 hS2486.1 ta0 c2490
      rw [c2490] at p2482
      obtain ⟨v2492, c2493⟩ : ∃ v, I2478 a0 13 = v := ⟨_, rfl⟩
      rw [c2493] at p2483
      rw [c2474] at p2483
      obtain ⟨v2494, c2495⟩ : ∃ v, I2478 a0 14 = v := ⟨_, rfl⟩
      rw [c2495] at p2484
      rw [c2476] at p2484
      have eF := hF.eq
      have eP := hP.eq
      obtain ⟨v2496, c2497⟩ : ∃ v, I2478 a0 10 = v := ⟨_, rfl⟩
      have b2498 := iv15_10 hS2486.1 ta0 c2497
      obtain ⟨v2499, c2500⟩ : ∃ v, I2478 a0 11 = v := ⟨_, rfl⟩
      obtain ⟨y2501, c2502⟩ : ∃ v, L2480 a0 15 = v := ⟨_, rfl⟩
      obtain ⟨v2503, c2504⟩ : ∃ v, I2478 a0 12 = v := ⟨_, rfl⟩
      obtain ⟨v2505, c2506⟩ : ∃ v, I2478 a0 8 = v := ⟨_, rfl⟩
      have b2507 := iv15_8 hS2486.1 ta0 c2506
      exact ⟨rfl, rfl, rfl, rfl, rfl, hS2486, (fun b hb => (Option.some.inj (d2.symm.trans hb)) ▸ (((FrM.rf (R := R0) (b := a1) (T := T)).st g1838 (by decide +kernel)).st g2481 (by decide +kernel))), (fun dr hd => (Option.some.inj (d2.symm.trans hd)) ▸ hO2488), (Or.inr (⟨(by first | done | with_reducible assumption | exact om_3a8e1f7c eF), (by (try rw [c2490]); first | done | with_reducible assumption | omega), (by (try rw [c2493]); first | done | with_reducible assumption | exact om_1428d4dd p1864 p2483 eF), (by (try rw [c2495]); first | done | with_reducible assumption | exact om_8e6888af p11 p1865 p2484 eP), trivial⟩)), trivial⟩
  · skip
    refine tr_aload_n dX12_readEvent_0 rfl ?_
    refine tr_aload_n dX12_readEvent_1 rfl ?_
    refine tr_getR dX12_readEvent_2 fl12_188 (kR15 hS0.1 ta0) d2 ?_
    refine q_getI dX12_readEvent_5 fl12_265 (kR14 hS0.1 ta1) c38 ?_
    refine q_bipush dX12_readEvent_8 (by decide +kernel) ?_
    intro v2508 h2509
    refine q_callVv hE (M' := mX12_begins) (as := [_, _]) dX12_readEvent_10 lk12_268 inX12_begins seX12_begins myX12_begins (by decide) ⟨by decide, by decide⟩ rfl (kR15 hS0.1 ta0) (Nat.le_of_ble_eq_true rfl) rfl rfl (by decide) (by decide) (fk_X12_begins hS0.1 (gB) (gs) (gQ) ta0 (TxA.kp hT hS0 ta0 rfl rfl rfl (by decide +kernel) (by decide +kernel)) (by (try rw [c4]); first | done | with_reducible assumption | omega) (by (try rw [c4]); first | done | with_reducible assumption | omega) (by (try rw [c9]); first | done | with_reducible assumption | omega) (by (try rw [c13]); first | done | with_reducible assumption | omega) (by (try rw [c16]); first | done | assumption) (by (try rw [c19]); first | done | assumption) (by (try rw [c22]); first | done | assumption) (by (try rw [c26]); first | done | with_reducible assumption | omega) (fun q0 z0 => by obtain rfl := Option.some.inj ((d2).symm.trans z0); (try rw [c30]); first | done | with_reducible assumption | omega) (by first | done | with_reducible assumption | omega) ⟨_, d2⟩) ?_
    rintro cn' K' N' I2510 R2511 L2512 ⟨rfl, rfl, rfl, rfl, g2513, dj2516, -⟩
    have hM2517 : NmM I2510 R0 L0 a1 gQ := NmM.kpS hM0 g2513 hS0.1 ta1 (by decide +kernel) (by decide +kernel)
    have hS2518 := hS0.tr g2513 (by decide +kernel) (by decide +kernel)
    have c2519 : I2510 a1 2 = v37 := (g2513.cell ta1 (by decide +kernel)).trans c38
    have hO2520 : FrO 14 a1 T I0 I2510 := hO0.st g2513 (by decide +kernel)
    rcases dj2516 with ⟨p2521, p2522, p2523, p2524, p2525, p2526, p2527, p2528, p2529, p2530, gl2531, -⟩ | ⟨p2532, p2533, p2534, p2535, -⟩ | ⟨p2536, p2537, p2538, p2539, p2540, -⟩
    · skip
      have hL2541 := hL0.tr gl2531 (by decide +kernel)
      have hM2542 : NmM I2510 R0 L2512 a1 gQ := NmM.kpL hM2517 gl2531 hS2518.1 ta1 (by decide +kernel)
      obtain ⟨v2543, c2544⟩ : ∃ v, I2510 a0 13 = v := ⟨_, rfl⟩
      rw [c2544] at p2523
      rw [c65] at p2523
      obtain ⟨v2545, c2546⟩ : ∃ v, I2510 a0 9 = v := ⟨_, rfl⟩
      have b2547 := iv15_9 hS2518.1 ta0 c2546
      rw [c2546] at p2524
      rw [c2546] at p2525
      obtain ⟨v2548, c2549⟩ : ∃ v, I2510 a0 10 = v := ⟨_, rfl⟩
      have b2550 := iv15_10 hS2518.1 ta0 c2549
      rw [c2549] at p2526
      obtain ⟨v2551, c2552⟩ : ∃ v, I2510 a0 11 = v := ⟨_, rfl⟩
      rw [c2552] at p2527
      obtain ⟨y2553, c2554⟩ : ∃ v, L2512 a0 15 = v := ⟨_, rfl⟩
      rw [c2554] at p2528
      obtain ⟨v2555, c2556⟩ : ∃ v, I2510 a0 12 = v := ⟨_, rfl⟩
      rw [c2556] at p2529
      obtain ⟨v2557, c2558⟩ : ∃ v, I2510 a0 8 = v := ⟨_, rfl⟩
      have b2559 := iv15_8 hS2518.1 ta0 c2558
      rw [c2558] at p2530
      have p2560 := p61
      unfold Q7M at p2560
      replace hF := hF.neg (by exact om_27dd1d8d pre18 b31.2 b31.1 p32 b39.2 b39.1 p40 kd74 h2509 p2521 p2522 p2560)
      replace hP := hP.neg (by exact om_27dd1d8d pre18 b31.2 b31.1 p32 b39.2 b39.1 p40 kd74 h2509 p2521 p2522 p2560)
      replace hF := hF.neg (by exact om_f8fa812d pre18 kd74 p2522 p2560)
      replace hP := hP.neg (by exact om_f8fa812d pre18 kd74 p2522 p2560)
      clear p2560
      obtain ⟨w2561, w2562, w2563, w2564, w2565, w2566, w2567, w2568, w2569, w2570, w2571, w2572⟩ := lnl_e (B := gB) (Q := gQ) (s := gs) (by exact om_ed139458 pre18 kd74) (by exact om_01a49edf pre18 kd74)
      replace hF := hF.to w2561 (evF_c4 (B := gB) (Q := gQ) (k := srt gB gs) (s := (tkN gB gs)) (by exact om_edeb1aa6 pre18 kd74))
      replace hP := hP.to w2562 (evP_c4 (B := gB) (Q := gQ) (k := srt gB gs) (s := (tkN gB gs)) (by exact om_edeb1aa6 pre18 kd74))
      refine tr_iload_n dX12_readEvent_13 rfl ?_
      refine q_iconst dX12_readEvent_14 (by decide) ?_
      intro v2573 h2574
      refine q_icmp_eq 23 dX12_readEvent_15 (by decide) (fun h2575 => ?_) (fun h2575 => ?_)
      · skip
        exfalso; exact om_c68046e3 pre18 kd74 h2574 h2575
      · skip
        refine tr_iload_n dX12_readEvent_18 rfl ?_
        refine q_iconst dX12_readEvent_19 (by decide) ?_
        intro v2576 h2577
        refine q_icmp_ne 40 dX12_readEvent_20 (by decide) (fun h2578 => ?_) (fun h2578 => ?_)
        · skip
          refine q_bipush dX12_readEvent_40 (by decide +kernel) ?_
          intro v2579 h2580
          refine tr_istore_n dX12_readEvent_42 (by decide) (by decide) ?_
          refine tr_aload_n dX12_readEvent_43 rfl ?_
          refine q_iconst dX12_readEvent_44 (by decide) ?_
          intro v2581 h2582
          refine tr_aload_n dX12_readEvent_45 rfl ?_
          refine tr_getR dX12_readEvent_46 fl12_188 (kR15 hS2518.1 ta0) d2 ?_
          refine q_getI dX12_readEvent_49 fl12_192 (kR14 hS2518.1 ta1) ((hS2518.cell ta1 (by decide +kernel)).trans c30) ?_
          refine q_iconst dX12_readEvent_52 (by decide) ?_
          intro v2583 h2584
          refine q_isubE dX12_readEvent_53 (by intro j1 j2 j3 j4; exact om_6479810f b31.2 b31.1 p32 w2564 h2584) ?_
          intro v2585 h2586
          refine q_callVi hE (M' := mX12_readWhole) (as := [_, _]) dX12_readEvent_54 lk12_161 inX12_readWhole seX12_readWhole myX12_readWhole (by decide) ⟨by decide, by decide⟩ rfl (kR15 hS2518.1 ta0) (Nat.le_of_ble_eq_true rfl) rfl rfl (by decide) (by decide) (fk_X12_readWhole hS2518.1 (gB) ((tkN gB gs)) ta0 (TxA.kp hT hS2518 ta0 rfl rfl rfl (by decide +kernel) (by decide +kernel)) (by (try rw [c2546]); first | done | with_reducible assumption | omega) (by (try rw [c2546]); first | done | with_reducible assumption | omega) (by (try rw [c2549]); first | done | with_reducible assumption | omega) (by (try rw [c2552]); first | done | with_reducible assumption | omega) (by (try rw [c2554]); first | done | assumption) (by (try rw [c2556]); first | done | assumption) (by (try rw [c2558]); first | done | assumption) (by (try rw [((hS2518.cell ta0 (by decide +kernel)).trans c26)]); first | done | with_reducible assumption | omega)) ?_
          rintro v2592 cn' K' N' I2587 R2588 L2589 ⟨rfl, rfl, rfl, rfl, g2590, dj2593, -⟩
          have hM2594 : NmM I2587 R0 L2512 a1 gQ := NmM.kpS hM2542 g2590 hS2518.1 ta1 (by decide +kernel) (by decide +kernel)
          have hS2595 := hS2518.tr g2590 (by decide +kernel) (by decide +kernel)
          have c2596 : I2587 a1 2 = v37 := (g2590.cell ta1 (by decide +kernel)).trans c2519
          have hO2597 : FrO 14 a1 T I0 I2587 := hO2520.st g2590 (by decide +kernel)
          rcases dj2593 with ⟨p2598, p2599, p2600, p2601, p2602, p2603, p2604, p2605, p2606, p2607, p2608, p2609, gl2610, -⟩ | ⟨p2611, p2612, p2613, p2614, p2615, -⟩ | ⟨p2616, p2617, p2618, p2619, p2620, p2621, -⟩
          · skip
            have hL2622 := hL2541.tr gl2610 (by decide +kernel)
            have hM2623 : NmM I2587 R0 L2589 a1 gQ := NmM.kpL hM2594 gl2610 hS2595.1 ta1 (by decide +kernel)
            obtain ⟨v2624, c2625⟩ : ∃ v, I2587 a0 13 = v := ⟨_, rfl⟩
            rw [c2625] at p2602
            rw [c2544] at p2602
            obtain ⟨v2626, c2627⟩ : ∃ v, I2587 a0 9 = v := ⟨_, rfl⟩
            have b2628 := iv15_9 hS2595.1 ta0 c2627
            rw [c2627] at p2603
            rw [c2627] at p2604
            obtain ⟨v2629, c2630⟩ : ∃ v, I2587 a0 10 = v := ⟨_, rfl⟩
            have b2631 := iv15_10 hS2595.1 ta0 c2630
            rw [c2630] at p2605
            obtain ⟨v2632, c2633⟩ : ∃ v, I2587 a0 11 = v := ⟨_, rfl⟩
            rw [c2633] at p2606
            obtain ⟨y2634, c2635⟩ : ∃ v, L2589 a0 15 = v := ⟨_, rfl⟩
            rw [c2635] at p2607
            obtain ⟨v2636, c2637⟩ : ∃ v, I2587 a0 12 = v := ⟨_, rfl⟩
            rw [c2637] at p2608
            obtain ⟨v2638, c2639⟩ : ∃ v, I2587 a0 8 = v := ⟨_, rfl⟩
            have b2640 := iv15_8 hS2595.1 ta0 c2639
            rw [c2639] at p2609
            replace hF := hF.neg (by exact om_10ed11b5 p2599)
            replace hP := hP.neg (by exact om_10ed11b5 p2599)
            replace hF := hF.neg (by exact om_4062d996 p32 w2564 h2582 h2584 h2586 p2600 p2601)
            replace hP := hP.neg (by exact om_4062d996 p32 w2564 h2582 h2584 h2586 p2600 p2601)
            refine tr_istore_n dX12_readEvent_57 (by decide) (by decide) ?_
            refine tr_iload_n dX12_readEvent_58 rfl ?_
            refine q_iconst dX12_readEvent_59 (by decide) ?_
            intro v2641 h2642
            refine q_icmp_ne 69 dX12_readEvent_60 (by decide) (fun h2643 => ?_) (fun h2643 => ?_)
            · skip
              exfalso; exact om_90155b10 pre18 kd74 h2642 h2643
            · skip
              refine tr_iload_n dX12_readEvent_63 rfl ?_
              refine q_iconst dX12_readEvent_64 (by decide) ?_
              intro v2644 h2645
              refine q_iaddE dX12_readEvent_65 (by intro j1 j2 j3 j4; exact om_5e7b6990 b31.2 b31.1 p32 w2564 h2582 h2584 h2586 p2598 p2600 p2601 h2645 j2) ?_
              intro v2646 h2647
              refine tr_goto 86 dX12_readEvent_66 (by decide) ?_
              refine tr_istore dX12_readEvent_86 (by decide) (by decide) ?_
              refine tr_aload_n dX12_readEvent_88 rfl ?_
              refine q_getI dX12_readEvent_89 fl12_99 (kR15 hS2595.1 ta0) c2627 ?_
              refine q_iconst dX12_readEvent_92 (by decide) ?_
              intro v2648 h2649
              refine q_icmp_ne 97 dX12_readEvent_93 (by decide) (fun h2650 => ?_) (fun h2650 => ?_)
              · skip
                refine tr_aload_n dX12_readEvent_97 rfl ?_
                refine tr_getR dX12_readEvent_98 fl12_188 (kR15 hS2595.1 ta0) d2 ?_
                refine q_getI dX12_readEvent_101 fl12_265 (kR14 hS2595.1 ta1) c2596 ?_
                refine tr_istore dX12_readEvent_104 (by decide) (by decide) ?_
                refine tr_aload_n dX12_readEvent_106 rfl ?_
                refine tr_getR dX12_readEvent_107 fl12_188 (kR15 hS2595.1 ta0) d2 ?_
                refine tr_getR dX12_readEvent_110 fl12_274 (kR14 hS2595.1 ta1) d67 ?_
                refine tr_iload dX12_readEvent_113 rfl ?_
                refine tr_iload_n dX12_readEvent_115 rfl ?_
                refine q_iastX dX12_readEvent_116 (kR54 hS2595.1 ta66) (ti_in (nR54 hS2595.1 ta66) (by exact om_b14f9e1e b39.2 b39.1 p40 w2566) (by exact om_29049203 pre18 b31.2 b31.1 p32 b39.2 b39.1 p40 kd74 h2509 p2521 p2522 w2564 w2566 h2574 h2575 h2577 h2578 h2584 h2586 p2604 p2603 b2628.1 h2649 h2650)) hS2595 ta66 (by rfl) (hS2595.1.putK (m := a1) ta1 d67 (by rw [c2596]; exact Int.le_of_eq (ti_nat (by exact om_b14f9e1e b39.2 b39.1 p40 w2566)).symm)) ?_
                intro I2655 hS2656 e2657 f2658
                have c2659 : I2655 a1 2 = v37 := (f2658 _ _ (fun q => by have z := ta1; rw [q.1, ta66] at z; exact absurd z (by decide))).trans c2596
                have c2660 : I2655 a0 13 = v2624 := (f2658 _ _ (fun q => by have z := ta0; rw [q.1, ta66] at z; exact absurd z (by decide))).trans c2625
                have c2661 : I2655 a0 9 = v2626 := (f2658 _ _ (fun q => by have z := ta0; rw [q.1, ta66] at z; exact absurd z (by decide))).trans c2627
                have c2662 : I2655 a0 10 = v2629 := (f2658 _ _ (fun q => by have z := ta0; rw [q.1, ta66] at z; exact absurd z (by decide))).trans c2630
                have c2663 : I2655 a0 11 = v2632 := (f2658 _ _ (fun q => by have z := ta0; rw [q.1, ta66] at z; exact absurd z (by decide))).trans c2633
                have c2664 : I2655 a0 12 = v2636 := (f2658 _ _ (fun q => by have z := ta0; rw [q.1, ta66] at z; exact absurd z (by decide))).trans c2637
                have c2665 : I2655 a0 8 = v2638 := (f2658 _ _ (fun q => by have z := ta0; rw [q.1, ta66] at z; exact absurd z (by decide))).trans c2639
                have hO2666 : FrO 14 a1 T I0 I2655 := hO2597.put f2658 ta66 (Or.inl (by decide))
                have hM2667 : NmM I2655 R0 L2589 a1 gQ := NmM.kp1 hM2623 f2658 ta66 rfl rfl hS2595.1 ta1
                refine tr_aload_n dX12_readEvent_117 rfl ?_
                refine tr_getR dX12_readEvent_118 fl12_188 (kR15 hS2656.1 ta0) d2 ?_
                refine tr_getR dX12_readEvent_121 fl12_277 (kR14 hS2656.1 ta1) d69 ?_
                refine tr_iload dX12_readEvent_124 rfl ?_
                refine tr_iload_n dX12_readEvent_126 rfl ?_
                refine q_iastX dX12_readEvent_127 (kR55 hS2656.1 ta68) (ti_in (nR55 hS2656.1 ta68) (by exact om_b14f9e1e b39.2 b39.1 p40 w2566) (by exact om_29049203 pre18 b31.2 b31.1 p32 b39.2 b39.1 p40 kd74 h2509 p2521 p2522 w2564 w2566 h2574 h2575 h2577 h2578 h2584 h2586 p2604 p2603 b2628.1 h2649 h2650)) hS2656 ta68 (by rfl) (hS2656.1.putH (m := a1) ta1 d69 (by rw [c2659]; exact Int.le_of_eq (ti_nat (by exact om_b14f9e1e b39.2 b39.1 p40 w2566)).symm) (by exact om_9bdeced0 h2580)) ?_
                intro I2672 hS2673 e2674 f2675
                have c2676 : I2672 a1 2 = v37 := (f2675 _ _ (fun q => by have z := ta1; rw [q.1, ta68] at z; exact absurd z (by decide))).trans c2659
                have c2677 : I2672 a0 13 = v2624 := (f2675 _ _ (fun q => by have z := ta0; rw [q.1, ta68] at z; exact absurd z (by decide))).trans c2660
                have c2678 : I2672 a0 9 = v2626 := (f2675 _ _ (fun q => by have z := ta0; rw [q.1, ta68] at z; exact absurd z (by decide))).trans c2661
                have c2679 : I2672 a0 10 = v2629 := (f2675 _ _ (fun q => by have z := ta0; rw [q.1, ta68] at z; exact absurd z (by decide))).trans c2662
                have c2680 : I2672 a0 11 = v2632 := (f2675 _ _ (fun q => by have z := ta0; rw [q.1, ta68] at z; exact absurd z (by decide))).trans c2663
                have c2681 : I2672 a0 12 = v2636 := (f2675 _ _ (fun q => by have z := ta0; rw [q.1, ta68] at z; exact absurd z (by decide))).trans c2664
                have c2682 : I2672 a0 8 = v2638 := (f2675 _ _ (fun q => by have z := ta0; rw [q.1, ta68] at z; exact absurd z (by decide))).trans c2665
                have c2683 : I2672 a66 v37.toNatClampNeg = x1 := (f2675 _ _ (fun q => by have z := ta66; rw [q.1, ta68] at z; exact absurd z (by decide))).trans e2657
                have hO2684 : FrO 14 a1 T I0 I2672 := hO2666.put f2675 ta68 (Or.inl (by decide))
                have hM2685 : NmM I2672 R0 L2589 a1 gQ := NmM.kp1 hM2667 f2675 ta68 rfl rfl hS2656.1 ta1
                refine tr_aload_n dX12_readEvent_128 rfl ?_
                refine tr_getR dX12_readEvent_129 fl12_188 (kR15 hS2673.1 ta0) d2 ?_
                refine tr_getR dX12_readEvent_132 fl12_280 (kR14 hS2673.1 ta1) d71 ?_
                refine tr_iload dX12_readEvent_135 rfl ?_
                refine tr_iload_n dX12_readEvent_137 rfl ?_
                refine q_iast dX12_readEvent_138 (kR56 hS2673.1 ta70) (ti_in (nR56 hS2673.1 ta70) (by exact om_b14f9e1e b39.2 b39.1 p40 w2566) (by exact om_29049203 pre18 b31.2 b31.1 p32 b39.2 b39.1 p40 kd74 h2509 p2521 p2522 w2564 w2566 h2574 h2575 h2577 h2578 h2584 h2586 p2604 p2603 b2628.1 h2649 h2650)) hS2673 ta70 (by show (0 : Int) ≤ v2592.toInt ∧ v2592.toInt ≤ (240 : Int); exact om_0f0d8164 b31.2 b31.1 p32 w2564 h2582 h2584 h2586 p2598 p2600 p2601 h2645 h2647) rfl (by rfl) ?_
                intro I2686 hS2687 e2689 f2688
                have c2690 : I2686 a1 2 = v37 := (f2688 _ _ (fun q => by have z := ta1; rw [q.1, ta70] at z; exact absurd z (by decide))).trans c2676
                have c2691 : I2686 a0 13 = v2624 := (f2688 _ _ (fun q => by have z := ta0; rw [q.1, ta70] at z; exact absurd z (by decide))).trans c2677
                have c2692 : I2686 a0 9 = v2626 := (f2688 _ _ (fun q => by have z := ta0; rw [q.1, ta70] at z; exact absurd z (by decide))).trans c2678
                have c2693 : I2686 a0 10 = v2629 := (f2688 _ _ (fun q => by have z := ta0; rw [q.1, ta70] at z; exact absurd z (by decide))).trans c2679
                have c2694 : I2686 a0 11 = v2632 := (f2688 _ _ (fun q => by have z := ta0; rw [q.1, ta70] at z; exact absurd z (by decide))).trans c2680
                have c2695 : I2686 a0 12 = v2636 := (f2688 _ _ (fun q => by have z := ta0; rw [q.1, ta70] at z; exact absurd z (by decide))).trans c2681
                have c2696 : I2686 a0 8 = v2638 := (f2688 _ _ (fun q => by have z := ta0; rw [q.1, ta70] at z; exact absurd z (by decide))).trans c2682
                have c2697 : I2686 a66 v37.toNatClampNeg = x1 := (f2688 _ _ (fun q => by have z := ta66; rw [q.1, ta70] at z; exact absurd z (by decide))).trans c2683
                have c2698 : I2686 a68 v37.toNatClampNeg = v2579 := (f2688 _ _ (fun q => by have z := ta68; rw [q.1, ta70] at z; exact absurd z (by decide))).trans e2674
                have hO2699 : FrO 14 a1 T I0 I2686 := hO2684.put f2688 ta70 (Or.inl (by decide))
                have hM2700 : NmM I2686 R0 L2589 a1 gQ := NmM.kp1 hM2685 f2688 ta70 rfl rfl hS2673.1 ta1
                refine tr_aload_n dX12_readEvent_139 rfl ?_
                refine tr_getR dX12_readEvent_140 fl12_188 (kR15 hS2687.1 ta0) d2 ?_
                refine tr_getR dX12_readEvent_143 fl12_283 (kR14 hS2687.1 ta1) d73 ?_
                refine tr_iload dX12_readEvent_146 rfl ?_
                refine tr_iload dX12_readEvent_148 rfl ?_
                refine q_iast dX12_readEvent_150 (kR57 hS2687.1 ta72) (ti_in (nR57 hS2687.1 ta72) (by exact om_b14f9e1e b39.2 b39.1 p40 w2566) (by exact om_29049203 pre18 b31.2 b31.1 p32 b39.2 b39.1 p40 kd74 h2509 p2521 p2522 w2564 w2566 h2574 h2575 h2577 h2578 h2584 h2586 p2604 p2603 b2628.1 h2649 h2650)) hS2687 ta72 (by show (0 : Int) ≤ v2646.toInt ∧ v2646.toInt ≤ (240 : Int); exact om_938cf39b b31.2 b31.1 p32 w2564 h2582 h2584 h2586 p2598 p2600 p2601 h2645 h2647) rfl (by rfl) ?_
                intro I2701 hS2702 e2704 f2703
                have c2705 : I2701 a1 2 = v37 := (f2703 _ _ (fun q => by have z := ta1; rw [q.1, ta72] at z; exact absurd z (by decide))).trans c2690
                have c2706 : I2701 a0 13 = v2624 := (f2703 _ _ (fun q => by have z := ta0; rw [q.1, ta72] at z; exact absurd z (by decide))).trans c2691
                have c2707 : I2701 a0 9 = v2626 := (f2703 _ _ (fun q => by have z := ta0; rw [q.1, ta72] at z; exact absurd z (by decide))).trans c2692
                have c2708 : I2701 a0 10 = v2629 := (f2703 _ _ (fun q => by have z := ta0; rw [q.1, ta72] at z; exact absurd z (by decide))).trans c2693
                have c2709 : I2701 a0 11 = v2632 := (f2703 _ _ (fun q => by have z := ta0; rw [q.1, ta72] at z; exact absurd z (by decide))).trans c2694
                have c2710 : I2701 a0 12 = v2636 := (f2703 _ _ (fun q => by have z := ta0; rw [q.1, ta72] at z; exact absurd z (by decide))).trans c2695
                have c2711 : I2701 a0 8 = v2638 := (f2703 _ _ (fun q => by have z := ta0; rw [q.1, ta72] at z; exact absurd z (by decide))).trans c2696
                have c2712 : I2701 a66 v37.toNatClampNeg = x1 := (f2703 _ _ (fun q => by have z := ta66; rw [q.1, ta72] at z; exact absurd z (by decide))).trans c2697
                have c2713 : I2701 a68 v37.toNatClampNeg = v2579 := (f2703 _ _ (fun q => by have z := ta68; rw [q.1, ta72] at z; exact absurd z (by decide))).trans c2698
                have hO2714 : FrO 14 a1 T I0 I2701 := hO2699.put f2703 ta72 (Or.inl (by decide))
                have hM2715 : NmM I2701 R0 L2589 a1 gQ := NmM.kp1 hM2700 f2703 ta72 rfl rfl hS2687.1 ta1
                refine tr_aload_n dX12_readEvent_151 rfl ?_
                refine tr_getR dX12_readEvent_152 fl12_188 (kR15 hS2702.1 ta0) d2 ?_
                refine tr_dup dX12_readEvent_155 rfl ?_
                refine q_getI dX12_readEvent_156 fl12_265 (kR14 hS2702.1 ta1) c2705 ?_
                refine q_iconst dX12_readEvent_159 (by decide) ?_
                intro v2716 h2717
                refine q_iaddE dX12_readEvent_160 (by intro j1 j2 j3 j4; exact om_a5745fee b39.2 b39.1 p40 w2566 h2717) ?_
                intro v2718 h2719
                refine q_putX dX12_readEvent_161 fl12_265 (kR14 hS2702.1 ta1) (Or.inl rfl) hS2702 ta1 (by decide +kernel) (hS2702.1.putE (i := v37.toNatClampNeg) ta1 d67 d69 (by rw [c2705]; exact (ti_nat (by exact om_74bf4760 b39.2 b39.1 p40 w2566 h2717 h2719)).symm) (by rw [c2705]; exact om_5a680f8c p40 w2566 h2717 h2719) (by exact om_7c0a874e pre18 b31.2 b31.1 p32 b39.2 b39.1 p40 kd74 h2509 p2521 p2522 w2564 w2566 h2574 h2575 h2577 h2578 h2584 h2586 p2604 p2603 b2628.1 h2649 h2650 h2717 h2719) (by rw [c2712, c2713]; exact om_936f3118 pre18 kd74)) ?_
                intro I2720 hS2721 e2722 f2723
                have c2724 : I2720 a0 13 = v2624 := (f2723 _ _ (fun q => absurd q.2 (by decide))).trans c2706
                have c2725 : I2720 a0 9 = v2626 := (f2723 _ _ (fun q => absurd q.2 (by decide))).trans c2707
                have c2726 : I2720 a0 10 = v2629 := (f2723 _ _ (fun q => absurd q.2 (by decide))).trans c2708
                have c2727 : I2720 a0 11 = v2632 := (f2723 _ _ (fun q => absurd q.2 (by decide))).trans c2709
                have c2728 : I2720 a0 12 = v2636 := (f2723 _ _ (fun q => absurd q.2 (by decide))).trans c2710
                have c2729 : I2720 a0 8 = v2638 := (f2723 _ _ (fun q => absurd q.2 (by decide))).trans c2711
                have c2730 : I2720 a66 v37.toNatClampNeg = x1 := (f2723 _ _ (fun q => by have z := ta66; rw [q.1, ta1] at z; exact absurd z (by decide))).trans c2712
                have c2731 : I2720 a68 v37.toNatClampNeg = v2579 := (f2723 _ _ (fun q => by have z := ta68; rw [q.1, ta1] at z; exact absurd z (by decide))).trans c2713
                have hO2732 : FrO 14 a1 T I0 I2720 := hO2714.put f2723 ta1 (Or.inr rfl)
                have hM2733 : NmM I2720 R0 L2589 a1 gQ := NmM.kp1 hM2715 f2723 ta1 rfl rfl hS2702.1 ta1
                have eF := hF.eq
                have eP := hP.eq
                have es2734 := evS_c4 (B := gB) (Q := gQ) (k := srt gB gs) (s := (tkN gB gs)) (by exact om_edeb1aa6 pre18 kd74)
                obtain ⟨v2735, c2736⟩ : ∃ v, I2720 a0 14 = v := ⟨_, rfl⟩
                exact tr_vret hZ dX12_readEvent_164 rfl (by decide) (by decide) ⟨rfl, rfl, rfl, rfl, rfl, hS2721, (fun b hb => (Option.some.inj (d2.symm.trans hb)) ▸ ((((((((FrM.rf (R := R0) (b := a1) (T := T)).st g2513 (by decide +kernel)).st g2590 (by decide +kernel)).pu f2658 (by decide) (by decide) d67).pu f2675 (by decide) (by decide) d69).pu f2688 (by decide) (by decide) d71).pu f2703 (by decide) (by decide) d73).put f2723 ta1 (by decide))), (fun dr hd => (Option.some.inj (d2.symm.trans hd)) ▸ hO2732), (Or.inl ⟨(by (try rw [w2563]); (try rw [es2734]); first | done | with_reducible assumption | omega), (fun q0 z0 => by obtain rfl := Option.some.inj ((d2).symm.trans z0); (try rw [w2563]); (try rw [es2734]); (try rw [((hS2721.cell ta1 (by decide +kernel)).trans c30)]); first | done | with_reducible assumption | exact om_2757374c p32 w2564), (fun q0 z0 => by obtain rfl := Option.some.inj ((d2).symm.trans z0); (try rw [w2563]); (try rw [es2734]); (try rw [((hS2721.cell ta1 (by decide +kernel)).trans c34)]); first | done | with_reducible assumption | exact om_2757374c p36 w2565), (fun q0 z0 => by obtain rfl := Option.some.inj ((d2).symm.trans z0); (try rw [w2563]); (try rw [es2734]); (try rw [e2722]); first | done | with_reducible assumption | exact om_7149e5be p40 w2566 h2717 h2719), (fun q0 z0 => by obtain rfl := Option.some.inj ((d2).symm.trans z0); (try rw [w2563]); (try rw [es2734]); (try rw [((hS2721.cell ta1 (by decide +kernel)).trans c42)]); first | done | with_reducible assumption | exact om_2757374c p44 w2567), (fun q0 z0 => by obtain rfl := Option.some.inj ((d2).symm.trans z0); (try rw [w2563]); (try rw [es2734]); (try rw [((hS2721.cell ta1 (by decide +kernel)).trans c46)]); first | done | with_reducible assumption | exact om_2757374c p48 w2568), (fun q0 z0 => by obtain rfl := Option.some.inj ((d2).symm.trans z0); (try rw [w2563]); (try rw [es2734]); (try rw [((hS2721.cell ta1 (by decide +kernel)).trans c50)]); first | done | with_reducible assumption | exact om_2757374c p52 w2569), (fun q0 z0 => by obtain rfl := Option.some.inj ((d2).symm.trans z0); (try rw [w2563]); (try rw [es2734]); (try rw [((hS2721.cell ta1 (by decide +kernel)).trans c54)]); first | done | with_reducible assumption | exact om_2757374c p56 w2570), (fun q0 z0 => by obtain rfl := Option.some.inj ((d2).symm.trans z0); (try rw [w2563]); (try rw [es2734]); (try rw [((hS2721.cell ta1 (by decide +kernel)).trans c58)]); first | done | with_reducible assumption | exact om_2757374c p60 w2572), (by (try rw [w2563]); (try rw [es2734]); (try rw [c2724]); (try rw [c65]); first | done | with_reducible assumption | exact om_9fa72578 p2523 p2602), (by (try rw [w2563]); (try rw [es2734]); (try rw [c2725]); first | done | with_reducible assumption | omega), (by (try rw [w2563]); (try rw [es2734]); (try rw [c2725]); first | done | with_reducible assumption | omega), (by (try rw [w2563]); (try rw [es2734]); (try rw [c2726]); first | done | with_reducible assumption | omega), (by (try rw [w2563]); (try rw [es2734]); (try rw [c2727]); first | done | with_reducible assumption | omega), (by (try rw [w2563]); (try rw [es2734]); (try rw [c2635]); first | done | assumption), (by (try rw [w2563]); (try rw [es2734]); (try rw [c2728]); first | done | assumption), (by (try rw [w2563]); (try rw [es2734]); (try rw [c2729]); first | done | assumption), hL2622, (fun b hb => (Option.some.inj (d2.symm.trans hb)) ▸ NmM.ln (NmM.bd (k := srt gB gs) hM2733 (by exact om_cbb2008c pre18 kd74) (by exact om_70a72f99 pre18 kd74)) rfl), (fun E b hb hE => by obtain rfl := Option.some.inj (d2.symm.trans hb); exact AlM.ev hE hW0 ta1 (by exact om_ed139458 pre18 kd74) (by exact om_01a49edf pre18 kd74) (by exact om_145f2c8e b39.2 b39.1 p40 w2566 h2717 h2719) (by exact om_e8ca463a pre18 b31.2 b31.1 p32 b39.2 b39.1 p40 kd74 h2509 p2521 p2522 w2564 w2566 h2574 h2575 h2577 h2578 h2584 h2586 p2604 p2603 b2628.1 h2649 h2650 h2717 h2719) (hS2721.cell ta1 (by decide +kernel)) (RoF.st (ex := xr 54 57) hS2721 (by decide +kernel)) (fun f hf => match f, hf with | 0, _ => (fun a ha => by obtain rfl := Option.some.inj (d67.symm.trans ha); have zi : v37.toNatClampNeg = (gQ 2).toNat := congrArg Int.toNat (by exact om_acd7a85a p40); have ze := (Eq.trans ((f2723 _ _ (fun q => by have z := ta66; rw [q.1, ta1] at z; exact absurd z (by decide))).trans ((f2703 _ _ (fun q => by have z := ta66; rw [q.1, ta72] at z; exact absurd z (by decide))).trans ((f2688 _ _ (fun q => by have z := ta66; rw [q.1, ta70] at z; exact absurd z (by decide))).trans (f2675 _ _ (fun q => by have z := ta66; rw [q.1, ta68] at z; exact absurd z (by decide)))))) e2657); rw [zi] at ze; exact ⟨by rw [ze]; exact om_744a20de pre18, fun j hj => ((f2723 _ _ (fun q => by have z := ta66; rw [q.1, ta1] at z; exact absurd z (by decide))).trans ((f2703 _ _ (fun q => by have z := ta66; rw [q.1, ta72] at z; exact absurd z (by decide))).trans ((f2688 _ _ (fun q => by have z := ta66; rw [q.1, ta70] at z; exact absurd z (by decide))).trans ((f2675 _ _ (fun q => by have z := ta66; rw [q.1, ta68] at z; exact absurd z (by decide))).trans ((f2658 _ _ (fun q => hj (q.2.trans zi))).trans ((g2590.cell ta66 (wm_no (by decide +kernel))).trans (g2513.cell ta66 (wm_no (by decide +kernel)))))))))⟩) | 1, _ => (fun a ha => by obtain rfl := Option.some.inj (d69.symm.trans ha); have zi : v37.toNatClampNeg = (gQ 2).toNat := congrArg Int.toNat (by exact om_acd7a85a p40); have ze := (Eq.trans ((f2723 _ _ (fun q => by have z := ta68; rw [q.1, ta1] at z; exact absurd z (by decide))).trans ((f2703 _ _ (fun q => by have z := ta68; rw [q.1, ta72] at z; exact absurd z (by decide))).trans (f2688 _ _ (fun q => by have z := ta68; rw [q.1, ta70] at z; exact absurd z (by decide))))) e2674); rw [zi] at ze; exact ⟨by rw [ze]; exact om_a25a5e3d pre18 kd74 h2580 h2582 p2598 p2600 h2645 h2647, fun j hj => ((f2723 _ _ (fun q => by have z := ta68; rw [q.1, ta1] at z; exact absurd z (by decide))).trans ((f2703 _ _ (fun q => by have z := ta68; rw [q.1, ta72] at z; exact absurd z (by decide))).trans ((f2688 _ _ (fun q => by have z := ta68; rw [q.1, ta70] at z; exact absurd z (by decide))).trans ((f2675 _ _ (fun q => hj (q.2.trans zi))).trans ((f2658 _ _ (fun q => by have z := ta68; rw [q.1, ta66] at z; exact absurd z (by decide))).trans ((g2590.cell ta68 (wm_no (by decide +kernel))).trans (g2513.cell ta68 (wm_no (by decide +kernel)))))))))⟩) | 2, _ => (fun a ha => by obtain rfl := Option.some.inj (d71.symm.trans ha); have zi : v37.toNatClampNeg = (gQ 2).toNat := congrArg Int.toNat (by exact om_acd7a85a p40); have ze := (Eq.trans ((f2723 _ _ (fun q => by have z := ta70; rw [q.1, ta1] at z; exact absurd z (by decide))).trans (f2703 _ _ (fun q => by have z := ta70; rw [q.1, ta72] at z; exact absurd z (by decide)))) e2689); rw [zi] at ze; exact ⟨by rw [ze]; exact om_9693757c pre18 kd74 p2598, fun j hj => ((f2723 _ _ (fun q => by have z := ta70; rw [q.1, ta1] at z; exact absurd z (by decide))).trans ((f2703 _ _ (fun q => by have z := ta70; rw [q.1, ta72] at z; exact absurd z (by decide))).trans ((f2688 _ _ (fun q => hj (q.2.trans zi))).trans ((f2675 _ _ (fun q => by have z := ta70; rw [q.1, ta68] at z; exact absurd z (by decide))).trans ((f2658 _ _ (fun q => by have z := ta70; rw [q.1, ta66] at z; exact absurd z (by decide))).trans ((g2590.cell ta70 (wm_no (by decide +kernel))).trans (g2513.cell ta70 (wm_no (by decide +kernel)))))))))⟩) | 3, _ => (fun a ha => by obtain rfl := Option.some.inj (d73.symm.trans ha); have zi : v37.toNatClampNeg = (gQ 2).toNat := congrArg Int.toNat (by exact om_acd7a85a p40); have ze := (Eq.trans (f2723 _ _ (fun q => by have z := ta72; rw [q.1, ta1] at z; exact absurd z (by decide))) e2704); rw [zi] at ze; exact ⟨by rw [ze]; exact om_3a17c728 pre18 kd74 p2598 h2645 h2647, fun j hj => ((f2723 _ _ (fun q => by have z := ta72; rw [q.1, ta1] at z; exact absurd z (by decide))).trans ((f2703 _ _ (fun q => hj (q.2.trans zi))).trans ((f2688 _ _ (fun q => by have z := ta72; rw [q.1, ta70] at z; exact absurd z (by decide))).trans ((f2675 _ _ (fun q => by have z := ta72; rw [q.1, ta68] at z; exact absurd z (by decide))).trans ((f2658 _ _ (fun q => by have z := ta72; rw [q.1, ta66] at z; exact absurd z (by decide))).trans ((g2590.cell ta72 (wm_no (by decide +kernel))).trans (g2513.cell ta72 (wm_no (by decide +kernel)))))))))⟩) | f + 4, h => absurd h (by exact om_551ec4b1 h))), trivial⟩), trivial⟩
              · skip
                exfalso; exact om_99cda0b7 p2604 p2603 b2628.1 h2649 h2650
          · skip
            obtain ⟨v2737, c2738⟩ : ∃ v, I2587 a0 9 = v := ⟨_, rfl⟩
            have b2739 := iv15_9 hS2595.1 ta0 c2738
            rw [c2738] at p2613
            obtain ⟨v2740, c2741⟩ : ∃ v, I2587 a0 13 = v := ⟨_, rfl⟩
            rw [c2741] at p2614
            obtain ⟨v2742, c2743⟩ : ∃ v, I2587 a0 14 = v := ⟨_, rfl⟩
            rw [c2743] at p2615
            replace hF := hF.pos (by exact om_73cc8e29 p2612)
            replace hP := hP.pos (by exact om_73cc8e29 p2612)
            refine tr_istore_n dX12_readEvent_57 (by decide) (by decide) ?_
            refine sf_oE58 hE hZ hS2595.1 (gB) ta0 (by (try rw [c2738]); first | done | with_reducible assumption | omega) ⟨_, d2⟩ rfl rfl rfl rfl ?_
            rintro I2744 R2745 L2746 ⟨g2747, p2748, p2749, p2750, rp2751, -⟩
            obtain rfl : R0 = R2745 := funext fun a => funext fun j => (g2747.2.2 a j (wm_no rfl)).symm
            have hS2752 := hS2595.tr g2747 (by decide +kernel) (by decide +kernel)
            have c2753 : I2744 a1 2 = v37 := (g2747.cell ta1 (by decide +kernel)).trans c2596
            have hO2754 : FrO 14 a1 T I0 I2744 := hO2597.st g2747 (by decide +kernel)
            obtain ⟨v2755, c2756⟩ : ∃ v, I2744 a0 9 = v := ⟨_, rfl⟩
            have b2757 := iv15_9 hS2752.1 ta0 c2756
            rw [c2756] at p2748
            obtain ⟨v2758, c2759⟩ : ∃ v, I2744 a0 13 = v := ⟨_, rfl⟩
            rw [c2759] at p2749
            rw [c2741] at p2749
            obtain ⟨v2760, c2761⟩ : ∃ v, I2744 a0 14 = v := ⟨_, rfl⟩
            rw [c2761] at p2750
            rw [c2743] at p2750
            have eF := hF.eq
            have eP := hP.eq
            obtain ⟨v2762, c2763⟩ : ∃ v, I2744 a0 10 = v := ⟨_, rfl⟩
            have b2764 := iv15_10 hS2752.1 ta0 c2763
            obtain ⟨v2765, c2766⟩ : ∃ v, I2744 a0 11 = v := ⟨_, rfl⟩
            obtain ⟨y2767, c2768⟩ : ∃ v, L2746 a0 15 = v := ⟨_, rfl⟩
            obtain ⟨v2769, c2770⟩ : ∃ v, I2744 a0 12 = v := ⟨_, rfl⟩
            obtain ⟨v2771, c2772⟩ : ∃ v, I2744 a0 8 = v := ⟨_, rfl⟩
            have b2773 := iv15_8 hS2752.1 ta0 c2772
            exact ⟨rfl, rfl, rfl, rfl, rfl, hS2752, (fun b hb => (Option.some.inj (d2.symm.trans hb)) ▸ ((((FrM.rf (R := R0) (b := a1) (T := T)).st g2513 (by decide +kernel)).st g2590 (by decide +kernel)).st g2747 (by decide +kernel))), (fun dr hd => (Option.some.inj (d2.symm.trans hd)) ▸ hO2754), (Or.inr (⟨(by first | done | with_reducible assumption | exact om_7fac24c5 eF), (by (try rw [c2756]); first | done | with_reducible assumption | omega), (by (try rw [c2759]); first | done | with_reducible assumption | exact om_9adad658 p2614 p2749 eF), (by (try rw [c2761]); first | done | with_reducible assumption | exact om_3998a42e p2615 p2750 eP), trivial⟩)), trivial⟩
          · skip
            obtain ⟨v2774, c2775⟩ : ∃ v, I2587 a0 9 = v := ⟨_, rfl⟩
            have b2776 := iv15_9 hS2595.1 ta0 c2775
            rw [c2775] at p2619
            obtain ⟨v2777, c2778⟩ : ∃ v, I2587 a0 13 = v := ⟨_, rfl⟩
            rw [c2778] at p2620
            obtain ⟨v2779, c2780⟩ : ∃ v, I2587 a0 14 = v := ⟨_, rfl⟩
            rw [c2780] at p2621
            replace hF := hF.neg (by exact om_10ed11b5 p2617)
            replace hP := hP.neg (by exact om_10ed11b5 p2617)
            replace hF := hF.pos (by exact om_41eb13e5 p32 w2564 h2582 h2584 h2586 p2618)
            replace hP := hP.pos (by exact om_41eb13e5 p32 w2564 h2582 h2584 h2586 p2618)
            refine tr_istore_n dX12_readEvent_57 (by decide) (by decide) ?_
            refine sf_oE58 hE hZ hS2595.1 (gB) ta0 (by (try rw [c2775]); first | done | with_reducible assumption | omega) ⟨_, d2⟩ rfl rfl rfl rfl ?_
            rintro I2781 R2782 L2783 ⟨g2784, p2785, p2786, p2787, rp2788, -⟩
            obtain rfl : R0 = R2782 := funext fun a => funext fun j => (g2784.2.2 a j (wm_no rfl)).symm
            have hS2789 := hS2595.tr g2784 (by decide +kernel) (by decide +kernel)
            have c2790 : I2781 a1 2 = v37 := (g2784.cell ta1 (by decide +kernel)).trans c2596
            have hO2791 : FrO 14 a1 T I0 I2781 := hO2597.st g2784 (by decide +kernel)
            obtain ⟨v2792, c2793⟩ : ∃ v, I2781 a0 9 = v := ⟨_, rfl⟩
            have b2794 := iv15_9 hS2789.1 ta0 c2793
            rw [c2793] at p2785
            obtain ⟨v2795, c2796⟩ : ∃ v, I2781 a0 13 = v := ⟨_, rfl⟩
            rw [c2796] at p2786
            rw [c2778] at p2786
            obtain ⟨v2797, c2798⟩ : ∃ v, I2781 a0 14 = v := ⟨_, rfl⟩
            rw [c2798] at p2787
            rw [c2780] at p2787
            have eF := hF.eq
            have eP := hP.eq
            obtain ⟨v2799, c2800⟩ : ∃ v, I2781 a0 10 = v := ⟨_, rfl⟩
            have b2801 := iv15_10 hS2789.1 ta0 c2800
            obtain ⟨v2802, c2803⟩ : ∃ v, I2781 a0 11 = v := ⟨_, rfl⟩
            obtain ⟨y2804, c2805⟩ : ∃ v, L2783 a0 15 = v := ⟨_, rfl⟩
            obtain ⟨v2806, c2807⟩ : ∃ v, I2781 a0 12 = v := ⟨_, rfl⟩
            obtain ⟨v2808, c2809⟩ : ∃ v, I2781 a0 8 = v := ⟨_, rfl⟩
            have b2810 := iv15_8 hS2789.1 ta0 c2809
            exact ⟨rfl, rfl, rfl, rfl, rfl, hS2789, (fun b hb => (Option.some.inj (d2.symm.trans hb)) ▸ ((((FrM.rf (R := R0) (b := a1) (T := T)).st g2513 (by decide +kernel)).st g2590 (by decide +kernel)).st g2784 (by decide +kernel))), (fun dr hd => (Option.some.inj (d2.symm.trans hd)) ▸ hO2791), (Or.inr (⟨(by first | done | with_reducible assumption | exact om_7b84bd42 eF), (by (try rw [c2793]); first | done | with_reducible assumption | omega), (by (try rw [c2796]); first | done | with_reducible assumption | exact om_4510ffdb p2620 p2786 eF), (by (try rw [c2798]); first | done | with_reducible assumption | exact om_3998a42e p2621 p2787 eP), trivial⟩)), trivial⟩
        · skip
          exfalso; exact om_f9d76a5e pre18 kd74 h2577 h2578
    · skip
      obtain ⟨v2811, c2812⟩ : ∃ v, I2510 a0 9 = v := ⟨_, rfl⟩
      have b2813 := iv15_9 hS2518.1 ta0 c2812
      rw [c2812] at p2533
      obtain ⟨v2814, c2815⟩ : ∃ v, I2510 a0 13 = v := ⟨_, rfl⟩
      rw [c2815] at p2534
      obtain ⟨v2816, c2817⟩ : ∃ v, I2510 a0 14 = v := ⟨_, rfl⟩
      rw [c2817] at p2535
      have p2818 := p61
      unfold Q7M at p2818
      replace hF := hF.pos (by exact om_9248c015 pre18 p40 kd74 h2509 p2532)
      replace hP := hP.pos (by exact om_9248c015 pre18 p40 kd74 h2509 p2532)
      clear p2818
      refine sf_oE13 hE hZ hS2518.1 (gB) ta0 (by (try rw [c2812]); first | done | with_reducible assumption | omega) ⟨_, d2⟩ rfl rfl ?_
      rintro I2819 R2820 L2821 ⟨g2822, p2823, p2824, p2825, rp2826, -⟩
      obtain rfl : R0 = R2820 := funext fun a => funext fun j => (g2822.2.2 a j (wm_no rfl)).symm
      have hS2827 := hS2518.tr g2822 (by decide +kernel) (by decide +kernel)
      have c2828 : I2819 a1 2 = v37 := (g2822.cell ta1 (by decide +kernel)).trans c2519
      have hO2829 : FrO 14 a1 T I0 I2819 := hO2520.st g2822 (by decide +kernel)
      obtain ⟨v2830, c2831⟩ : ∃ v, I2819 a0 9 = v := ⟨_, rfl⟩
      have b2832 := iv15_9 hS2827.1 ta0 c2831
      rw [c2831] at p2823
      obtain ⟨v2833, c2834⟩ : ∃ v, I2819 a0 13 = v := ⟨_, rfl⟩
      rw [c2834] at p2824
      rw [c2815] at p2824
      obtain ⟨v2835, c2836⟩ : ∃ v, I2819 a0 14 = v := ⟨_, rfl⟩
      rw [c2836] at p2825
      rw [c2817] at p2825
      have eF := hF.eq
      have eP := hP.eq
      obtain ⟨v2837, c2838⟩ : ∃ v, I2819 a0 10 = v := ⟨_, rfl⟩
      have b2839 := iv15_10 hS2827.1 ta0 c2838
      obtain ⟨v2840, c2841⟩ : ∃ v, I2819 a0 11 = v := ⟨_, rfl⟩
      obtain ⟨y2842, c2843⟩ : ∃ v, L2821 a0 15 = v := ⟨_, rfl⟩
      obtain ⟨v2844, c2845⟩ : ∃ v, I2819 a0 12 = v := ⟨_, rfl⟩
      obtain ⟨v2846, c2847⟩ : ∃ v, I2819 a0 8 = v := ⟨_, rfl⟩
      have b2848 := iv15_8 hS2827.1 ta0 c2847
      exact ⟨rfl, rfl, rfl, rfl, rfl, hS2827, (fun b hb => (Option.some.inj (d2.symm.trans hb)) ▸ (((FrM.rf (R := R0) (b := a1) (T := T)).st g2513 (by decide +kernel)).st g2822 (by decide +kernel))), (fun dr hd => (Option.some.inj (d2.symm.trans hd)) ▸ hO2829), (Or.inr (⟨(by first | done | with_reducible assumption | exact om_64c62efe eF), (by (try rw [c2831]); first | done | with_reducible assumption | omega), (by (try rw [c2834]); first | done | with_reducible assumption | exact om_7fd518bd p2534 p2824 eF), (by (try rw [c2836]); first | done | with_reducible assumption | exact om_8e6888af p11 p2535 p2825 eP), trivial⟩)), trivial⟩
    · skip
      obtain ⟨v2849, c2850⟩ : ∃ v, I2510 a0 9 = v := ⟨_, rfl⟩
      have b2851 := iv15_9 hS2518.1 ta0 c2850
      rw [c2850] at p2538
      obtain ⟨v2852, c2853⟩ : ∃ v, I2510 a0 13 = v := ⟨_, rfl⟩
      rw [c2853] at p2539
      obtain ⟨v2854, c2855⟩ : ∃ v, I2510 a0 14 = v := ⟨_, rfl⟩
      rw [c2855] at p2540
      have p2856 := p61
      unfold Q7M at p2856
      replace hF := hF.neg (by exact om_d39d341b pre18 b39.2 b39.1 p40 kd74 h2509 p2536 p2537 p2856)
      replace hP := hP.neg (by exact om_d39d341b pre18 b39.2 b39.1 p40 kd74 h2509 p2536 p2537 p2856)
      replace hF := hF.pos (by exact om_cb55ece5 pre18 kd74 p2537 p2856)
      replace hP := hP.pos (by exact om_cb55ece5 pre18 kd74 p2537 p2856)
      clear p2856
      refine sf_oE13 hE hZ hS2518.1 (gB) ta0 (by (try rw [c2850]); first | done | with_reducible assumption | omega) ⟨_, d2⟩ rfl rfl ?_
      rintro I2857 R2858 L2859 ⟨g2860, p2861, p2862, p2863, rp2864, -⟩
      obtain rfl : R0 = R2858 := funext fun a => funext fun j => (g2860.2.2 a j (wm_no rfl)).symm
      have hS2865 := hS2518.tr g2860 (by decide +kernel) (by decide +kernel)
      have c2866 : I2857 a1 2 = v37 := (g2860.cell ta1 (by decide +kernel)).trans c2519
      have hO2867 : FrO 14 a1 T I0 I2857 := hO2520.st g2860 (by decide +kernel)
      obtain ⟨v2868, c2869⟩ : ∃ v, I2857 a0 9 = v := ⟨_, rfl⟩
      have b2870 := iv15_9 hS2865.1 ta0 c2869
      rw [c2869] at p2861
      obtain ⟨v2871, c2872⟩ : ∃ v, I2857 a0 13 = v := ⟨_, rfl⟩
      rw [c2872] at p2862
      rw [c2853] at p2862
      obtain ⟨v2873, c2874⟩ : ∃ v, I2857 a0 14 = v := ⟨_, rfl⟩
      rw [c2874] at p2863
      rw [c2855] at p2863
      have eF := hF.eq
      have eP := hP.eq
      obtain ⟨v2875, c2876⟩ : ∃ v, I2857 a0 10 = v := ⟨_, rfl⟩
      have b2877 := iv15_10 hS2865.1 ta0 c2876
      obtain ⟨v2878, c2879⟩ : ∃ v, I2857 a0 11 = v := ⟨_, rfl⟩
      obtain ⟨y2880, c2881⟩ : ∃ v, L2859 a0 15 = v := ⟨_, rfl⟩
      obtain ⟨v2882, c2883⟩ : ∃ v, I2857 a0 12 = v := ⟨_, rfl⟩
      obtain ⟨v2884, c2885⟩ : ∃ v, I2857 a0 8 = v := ⟨_, rfl⟩
      have b2886 := iv15_8 hS2865.1 ta0 c2885
      exact ⟨rfl, rfl, rfl, rfl, rfl, hS2865, (fun b hb => (Option.some.inj (d2.symm.trans hb)) ▸ (((FrM.rf (R := R0) (b := a1) (T := T)).st g2513 (by decide +kernel)).st g2860 (by decide +kernel))), (fun dr hd => (Option.some.inj (d2.symm.trans hd)) ▸ hO2867), (Or.inr (⟨(by first | done | with_reducible assumption | exact om_3a8e1f7c eF), (by (try rw [c2869]); first | done | with_reducible assumption | omega), (by (try rw [c2872]); first | done | with_reducible assumption | exact om_1428d4dd p2539 p2862 eF), (by (try rw [c2874]); first | done | with_reducible assumption | exact om_8e6888af p11 p2540 p2863 eP), trivial⟩)), trivial⟩
def wik_X12_readCheese : List Nat := [899, 903, 968, 969, 970, 971, 972, 973, 974, 3775, 4031, 4799, 4863]
def wrk_X12_readCheese : List Nat := []
def wlk_X12_readCheese : List Nat := [975, 4735]
set_option maxHeartbeats 4000000 in
theorem fk_X12_readCheese {l : Launch} {T : Nat → Nat} {cn : Nat} {K N : Nat → Nat} {I0 : cz_I} {R0 : cz_R} {L0 : cz_L} (hW0 : Wf T cn K N I0 R0 0) (gB : cz_B) (gs : Int) (gQ : Nat → Int) {a0 : Nat} (ta0 : T a0 = 15) (hT : ∀ t, R0 a0 5 = some t → Tx I0 t gB) (hN : ∀ b, R0 a0 4 = some b → NmM I0 R0 L0 b gQ) (pre0 : (I0 a0 9).toInt = (tkM gB gs)) (pre1 : (I0 a0 9).toInt ≤ 4) (pre2 : (I0 a0 10).toInt = (tkS gB gs)) (pre3 : (I0 a0 11).toInt = (tkG gB gs)) (pre4 : (AtW ((tkK gB gs)) ((L0 a0 15).toInt) ((tkW gB gs)))) (pre5 : (AtV ((tkK gB gs)) ((I0 a0 12).toInt) ((tkV gB gs)))) (pre6 : (AtN ((tkK gB gs)) ((I0 a0 8).toInt) ((tkN gB gs)))) (pre7 : (I0 a0 7).toInt = (gB.2)) (pre8 : ∀ b1, R0 a0 4 = some b1 → (I0 b1 0).toInt = (gQ 0)) (pre9 : ∀ b1, R0 a0 4 = some b1 → (I0 b1 1).toInt = (gQ 1)) (pre10 : ∀ b1, R0 a0 4 = some b1 → (I0 b1 2).toInt = (gQ 2)) (pre11 : ∀ b1, R0 a0 4 = some b1 → (I0 b1 3).toInt = (gQ 3)) (pre12 : ∀ b1, R0 a0 4 = some b1 → (I0 b1 4).toInt = (gQ 4)) (pre13 : ∀ b1, R0 a0 4 = some b1 → (I0 b1 5).toInt = (gQ 5)) (pre14 : ∀ b1, R0 a0 4 = some b1 → (I0 b1 6).toInt = (gQ 6)) (pre15 : ∀ b1, R0 a0 4 = some b1 → (I0 b1 9).toInt = (gQ 8)) (pre16 : (Q7M ((gQ 0)) ((gQ 7)))) (pre17 : (tkK gB gs) = 1) (pre18 : (srt gB gs) = 5) (nn4 : ∃ b, R0 a0 4 = some b) : ConE l mX12_readCheese [.ref a0] cn K N I0 R0 L0 (ca_v (fun cn' K' N' I' R' L' => cn = cn' ∧ K = K' ∧ N = N' ∧ R0 = R' ∧ St T cn K N 0 wik_X12_readCheese wrk_X12_readCheese I0 R0 I' R0 ∧ (∀ b, R0 a0 4 = some b → FrM R0 b T I0 I') ∧ (∀ dr, R0 a0 4 = some dr → FrO 14 dr T I0 I') ∧ ((((lnF gB gQ gs) = 0) ∧ (∀ b1, R0 a0 4 = some b1 → (I' b1 0).toInt = (lnQ gB gQ gs 0)) ∧ (∀ b1, R0 a0 4 = some b1 → (I' b1 1).toInt = (lnQ gB gQ gs 1)) ∧ (∀ b1, R0 a0 4 = some b1 → (I' b1 2).toInt = (lnQ gB gQ gs 2)) ∧ (∀ b1, R0 a0 4 = some b1 → (I' b1 3).toInt = (lnQ gB gQ gs 3)) ∧ (∀ b1, R0 a0 4 = some b1 → (I' b1 4).toInt = (lnQ gB gQ gs 4)) ∧ (∀ b1, R0 a0 4 = some b1 → (I' b1 5).toInt = (lnQ gB gQ gs 5)) ∧ (∀ b1, R0 a0 4 = some b1 → (I' b1 6).toInt = (lnQ gB gQ gs 6)) ∧ (∀ b1, R0 a0 4 = some b1 → (I' b1 9).toInt = (lnQ gB gQ gs 8)) ∧ ((I' a0 13).toInt = (I0 a0 13).toInt) ∧ ((I' a0 9).toInt = (tkM gB (lnS gB gQ gs))) ∧ ((I' a0 9).toInt ≤ 4) ∧ ((I' a0 10).toInt = (tkS gB (lnS gB gQ gs))) ∧ ((I' a0 11).toInt = (tkG gB (lnS gB gQ gs))) ∧ ((AtW ((tkK gB (lnS gB gQ gs))) ((L' a0 15).toInt) ((tkW gB (lnS gB gQ gs))))) ∧ ((AtV ((tkK gB (lnS gB gQ gs))) ((I' a0 12).toInt) ((tkV gB (lnS gB gQ gs))))) ∧ ((AtN ((tkK gB (lnS gB gQ gs))) ((I' a0 8).toInt) ((tkN gB (lnS gB gQ gs))))) ∧ LgS T wlk_X12_readCheese L0 L' ∧ (∀ b, R0 a0 4 = some b → NmM I' R0 L' b (lnQ gB gQ gs)) ∧ (∀ E b, R0 a0 4 = some b → AlM I0 R0 b gQ E → AlM I' R0 b (lnQ gB gQ gs) (lnE gB gQ gs E)) ∧ True) ∨ (((lnF gB gQ gs) ≠ 0) ∧ ((I' a0 9).toInt = 5) ∧ ((I' a0 13).toInt = (lnF gB gQ gs)) ∧ ((I' a0 14).toInt = (lnP gB gQ gs)) ∧ True)) ∧ True)) := by
  refine ConE.of (by decide +kernel) rfl (Nat.le_of_ble_eq_true rfl) rfl (fun X hX hZ hE => ?_)
  subst hX
  have hS0 : St T cn K N 0 wik_X12_readCheese wrk_X12_readCheese I0 R0 I0 R0 := St.rf0 hW0
  have hL0 : LgS T wlk_X12_readCheese L0 L0 := LgS.rf0
  obtain ⟨a1, d2⟩ := nn4
  have ta1 : T a1 = 14 := hW0.rsN ta0 rfl d2
  obtain ⟨v3, c4⟩ : ∃ v, I0 a0 9 = v := ⟨_, rfl⟩
  have b5 := iv15_9 hS0.1 ta0 c4
  have p6 := pre0
  rw [c4] at p6
  have p7 := pre1
  rw [c4] at p7
  obtain ⟨v8, c9⟩ : ∃ v, I0 a0 10 = v := ⟨_, rfl⟩
  have b10 := iv15_10 hS0.1 ta0 c9
  have p11 := pre2
  rw [c9] at p11
  obtain ⟨v12, c13⟩ : ∃ v, I0 a0 11 = v := ⟨_, rfl⟩
  have p14 := pre3
  rw [c13] at p14
  obtain ⟨y15, c16⟩ : ∃ v, L0 a0 15 = v := ⟨_, rfl⟩
  have p17 := pre4
  rw [c16] at p17
  obtain ⟨v18, c19⟩ : ∃ v, I0 a0 12 = v := ⟨_, rfl⟩
  have p20 := pre5
  rw [c19] at p20
  obtain ⟨v21, c22⟩ : ∃ v, I0 a0 8 = v := ⟨_, rfl⟩
  have b23 := iv15_8 hS0.1 ta0 c22
  have p24 := pre6
  rw [c22] at p24
  obtain ⟨v25, c26⟩ : ∃ v, I0 a0 7 = v := ⟨_, rfl⟩
  have b27 := iv15_7 hW0 ta0 c26
  have p28 := pre7
  rw [c26] at p28
  obtain ⟨v29, c30⟩ : ∃ v, I0 a1 0 = v := ⟨_, rfl⟩
  have b31 := iv14_0 hW0 ta1 c30
  have p32 := pre8 _ d2
  rw [c30] at p32
  obtain ⟨v33, c34⟩ : ∃ v, I0 a1 1 = v := ⟨_, rfl⟩
  have b35 := iv14_1 hW0 ta1 c34
  have p36 := pre9 _ d2
  rw [c34] at p36
  obtain ⟨v37, c38⟩ : ∃ v, I0 a1 2 = v := ⟨_, rfl⟩
  have b39 := iv14_2 hW0 ta1 c38
  have p40 := pre10 _ d2
  rw [c38] at p40
  obtain ⟨v41, c42⟩ : ∃ v, I0 a1 3 = v := ⟨_, rfl⟩
  have b43 := iv14_3 hS0.1 ta1 c42
  have p44 := pre11 _ d2
  rw [c42] at p44
  obtain ⟨v45, c46⟩ : ∃ v, I0 a1 4 = v := ⟨_, rfl⟩
  have b47 := iv14_4 hW0 ta1 c46
  have p48 := pre12 _ d2
  rw [c46] at p48
  obtain ⟨v49, c50⟩ : ∃ v, I0 a1 5 = v := ⟨_, rfl⟩
  have b51 := iv14_5 hW0 ta1 c50
  have p52 := pre13 _ d2
  rw [c50] at p52
  obtain ⟨v53, c54⟩ : ∃ v, I0 a1 6 = v := ⟨_, rfl⟩
  have b55 := iv14_6 hW0 ta1 c54
  have p56 := pre14 _ d2
  rw [c54] at p56
  obtain ⟨v57, c58⟩ : ∃ v, I0 a1 9 = v := ⟨_, rfl⟩
  have b59 := iv14_9 hW0 ta1 c58
  have p60 := pre15 _ d2
  rw [c58] at p60
  have p61 := pre16
  have p62 := pre17
  have p63 := pre18
  obtain ⟨v64, c65⟩ : ∃ v, I0 a0 13 = v := ⟨_, rfl⟩
  have hM0 := hN _ d2
  have hO0 : FrO 14 a1 T I0 I0 := FrO.rf
  obtain ⟨a66, d67, ta66⟩ := rf14_15 hW0 ta1
  obtain ⟨a68, d69, ta68⟩ := rf14_19 hW0 ta1
  have hF := lnF_ch gB gQ gs
  have hP := lnP_ch gB gQ gs
  replace hF := hF.neg (by exact om_b3972d7c pre18)
  replace hP := hP.neg (by exact om_b3972d7c pre18)
  replace hF := hF.neg (by exact om_2aa94efc pre18)
  replace hP := hP.neg (by exact om_2aa94efc pre18)
  refine tr_aload_n dX12_readCheese_0 rfl ?_
  refine tr_aload_n dX12_readCheese_1 rfl ?_
  refine tr_getR dX12_readCheese_2 fl12_188 (kR15 hS0.1 ta0) d2 ?_
  refine q_getI dX12_readCheese_5 fl12_224 (kR14 hS0.1 ta1) c42 ?_
  refine q_bipush dX12_readCheese_8 (by decide +kernel) ?_
  intro v70 h71
  refine q_callVv hE (M' := mX12_begins) (as := [_, _]) dX12_readCheese_10 lk12_268 inX12_begins seX12_begins myX12_begins (by decide) ⟨by decide, by decide⟩ rfl (kR15 hS0.1 ta0) (Nat.le_of_ble_eq_true rfl) rfl rfl (by decide) (by decide) (fk_X12_begins hS0.1 (gB) (gs) (gQ) ta0 (TxA.kp hT hS0 ta0 rfl rfl rfl (by decide +kernel) (by decide +kernel)) (by (try rw [c4]); first | done | with_reducible assumption | omega) (by (try rw [c4]); first | done | with_reducible assumption | omega) (by (try rw [c9]); first | done | with_reducible assumption | omega) (by (try rw [c13]); first | done | with_reducible assumption | omega) (by (try rw [c16]); first | done | assumption) (by (try rw [c19]); first | done | assumption) (by (try rw [c22]); first | done | assumption) (by (try rw [c26]); first | done | with_reducible assumption | omega) (fun q0 z0 => by obtain rfl := Option.some.inj ((d2).symm.trans z0); (try rw [c30]); first | done | with_reducible assumption | omega) (by first | done | with_reducible assumption | omega) ⟨_, d2⟩) ?_
  rintro cn' K' N' I72 R73 L74 ⟨rfl, rfl, rfl, rfl, g75, dj78, -⟩
  have hM79 : NmM I72 R0 L0 a1 gQ := NmM.kpS hM0 g75 hS0.1 ta1 (by decide +kernel) (by decide +kernel)
  have hS80 := hS0.tr g75 (by decide +kernel) (by decide +kernel)
  have c81 : I72 a1 3 = v41 := (g75.cell ta1 (by decide +kernel)).trans c42
  have hO82 : FrO 14 a1 T I0 I72 := hO0.st g75 (by decide +kernel)
  rcases dj78 with ⟨p83, p84, p85, p86, p87, p88, p89, p90, p91, p92, gl93, -⟩ | ⟨p94, p95, p96, p97, -⟩ | ⟨p98, p99, p100, p101, p102, -⟩
  · skip
    have hL103 := hL0.tr gl93 (by decide +kernel)
    have hM104 : NmM I72 R0 L74 a1 gQ := NmM.kpL hM79 gl93 hS80.1 ta1 (by decide +kernel)
    obtain ⟨v105, c106⟩ : ∃ v, I72 a0 13 = v := ⟨_, rfl⟩
    rw [c106] at p85
    rw [c65] at p85
    obtain ⟨v107, c108⟩ : ∃ v, I72 a0 9 = v := ⟨_, rfl⟩
    have b109 := iv15_9 hS80.1 ta0 c108
    rw [c108] at p86
    rw [c108] at p87
    obtain ⟨v110, c111⟩ : ∃ v, I72 a0 10 = v := ⟨_, rfl⟩
    have b112 := iv15_10 hS80.1 ta0 c111
    rw [c111] at p88
    obtain ⟨v113, c114⟩ : ∃ v, I72 a0 11 = v := ⟨_, rfl⟩
    rw [c114] at p89
    obtain ⟨y115, c116⟩ : ∃ v, L74 a0 15 = v := ⟨_, rfl⟩
    rw [c116] at p90
    obtain ⟨v117, c118⟩ : ∃ v, I72 a0 12 = v := ⟨_, rfl⟩
    rw [c118] at p91
    obtain ⟨v119, c120⟩ : ∃ v, I72 a0 8 = v := ⟨_, rfl⟩
    have b121 := iv15_8 hS80.1 ta0 c120
    rw [c120] at p92
    have p122 := p61
    unfold Q7M at p122
    replace hF := hF.neg (by exact om_0c740e82 pre18 b31.2 b31.1 p32 b43.2 b43.1 p44 h71 p83 p84 p122)
    replace hP := hP.neg (by exact om_0c740e82 pre18 b31.2 b31.1 p32 b43.2 b43.1 p44 h71 p83 p84 p122)
    replace hF := hF.neg (by exact om_298e8933 pre18 p84 p122)
    replace hP := hP.neg (by exact om_298e8933 pre18 p84 p122)
    clear p122
    obtain ⟨w123, w124, w125, w126, w127, w128, w129, w130, w131, w132, w133, w134⟩ := lnl_5 (B := gB) (Q := gQ) (s := gs) (by exact om_394b70a2 p63)
    replace hF := hF.to w123 (chF_ch gB gQ (tkN gB gs))
    replace hP := hP.to w124 (chP_ch gB gQ (tkN gB gs))
    refine tr_aload_n dX12_readCheese_13 rfl ?_
    refine q_callVl hE (M' := mX12_readFresh) (as := []) dX12_readCheese_14 lk12_285 inX12_readFresh seX12_readFresh myX12_readFresh (by decide) ⟨by decide, by decide⟩ rfl (kR15 hS80.1 ta0) (Nat.le_of_ble_eq_true rfl) rfl rfl (by decide) (by decide) (fk_X12_readFresh hS80.1 (gB) ((tkN gB gs)) (gQ) ta0 (TxA.kp hT hS80 ta0 rfl rfl rfl (by decide +kernel) (by decide +kernel)) (fun b hb => (Option.some.inj (d2.symm.trans hb)) ▸ hM104) (by (try rw [c108]); first | done | with_reducible assumption | omega) (by (try rw [c108]); first | done | with_reducible assumption | omega) (by (try rw [c111]); first | done | with_reducible assumption | omega) (by (try rw [c114]); first | done | with_reducible assumption | omega) (by (try rw [c116]); first | done | assumption) (by (try rw [c118]); first | done | assumption) (by (try rw [c120]); first | done | assumption) (by (try rw [((hS80.cell ta0 (by decide +kernel)).trans c26)]); first | done | with_reducible assumption | omega) (fun q0 z0 => by obtain rfl := Option.some.inj ((d2).symm.trans z0); (try rw [c81]); first | done | with_reducible assumption | omega) (fun q0 z0 => by obtain rfl := Option.some.inj ((d2).symm.trans z0); (try rw [((hS80.cell ta1 (by decide +kernel)).trans c46)]); first | done | with_reducible assumption | omega) ⟨_, d2⟩) ?_
    rintro y140 cn' K' N' I135 R136 L137 ⟨rfl, rfl, rfl, rfl, g138, dj141, -⟩
    have hM142 : NmM I135 R0 L74 a1 gQ := NmM.kpS hM104 g138 hS80.1 ta1 (by decide +kernel) (by decide +kernel)
    have hS143 := hS80.tr g138 (by decide +kernel) (by decide +kernel)
    have c144 : I135 a1 3 = v41 := (g138.cell ta1 (by decide +kernel)).trans c81
    have hO145 : FrO 14 a1 T I0 I135 := hO82.st g138 (by decide +kernel)
    rcases dj141 with ⟨p146, p147, p148, p149, p150, p151, p152, p153, p154, p155, p156, p157, p158, gl159, -⟩ | ⟨p160, p161, p162, p163, -⟩ | ⟨p164, p165, p166, p167, p168, -⟩
    · skip
      have hL169 := hL103.tr gl159 (by decide +kernel)
      have hM170 : NmM I135 R0 L137 a1 gQ := NmM.kpL hM142 gl159 hS143.1 ta1 (by decide +kernel)
      obtain ⟨v171, c172⟩ : ∃ v, I135 a0 13 = v := ⟨_, rfl⟩
      rw [c172] at p151
      rw [c106] at p151
      obtain ⟨v173, c174⟩ : ∃ v, I135 a0 9 = v := ⟨_, rfl⟩
      have b175 := iv15_9 hS143.1 ta0 c174
      rw [c174] at p152
      rw [c174] at p153
      obtain ⟨v176, c177⟩ : ∃ v, I135 a0 10 = v := ⟨_, rfl⟩
      have b178 := iv15_10 hS143.1 ta0 c177
      rw [c177] at p154
      obtain ⟨v179, c180⟩ : ∃ v, I135 a0 11 = v := ⟨_, rfl⟩
      rw [c180] at p155
      obtain ⟨y181, c182⟩ : ∃ v, L137 a0 15 = v := ⟨_, rfl⟩
      rw [c182] at p156
      obtain ⟨v183, c184⟩ : ∃ v, I135 a0 12 = v := ⟨_, rfl⟩
      rw [c184] at p157
      obtain ⟨v185, c186⟩ : ∃ v, I135 a0 8 = v := ⟨_, rfl⟩
      have b187 := iv15_8 hS143.1 ta0 c186
      rw [c186] at p158
      replace hF := hF.neg (by exact om_e4d065d5 p147)
      replace hP := hP.neg (by exact om_e4d065d5 p147)
      replace hF := hF.neg (by exact om_e6f60cd2 p149 p150)
      replace hP := hP.neg (by exact om_e6f60cd2 p149 p150)
      refine tr_lstore_n dX12_readCheese_17 (by decide) (by decide) (by decide) ?_
      refine tr_aload_n dX12_readCheese_18 rfl ?_
      refine tr_ldcwS dX12_readCheese_19 ld12_289 ?_
      refine q_iconst dX12_readCheese_22 (by decide) ?_
      intro v188 h189
      refine tr_aload_n dX12_readCheese_23 rfl ?_
      refine tr_getR dX12_readCheese_24 fl12_188 (kR15 hS143.1 ta0) d2 ?_
      refine q_getI dX12_readCheese_27 fl12_263 (kR14 hS143.1 ta1) ((hS143.cell ta1 (by decide +kernel)).trans c34) ?_
      refine q_iconst dX12_readCheese_30 (by decide) ?_
      intro v190 h191
      refine q_isubE dX12_readCheese_31 (by intro j1 j2 j3 j4; exact om_99c1ed93 b35.2 b35.1 p36 w127 h191) ?_
      intro v192 h193
      refine q_callVi hE (M' := mX12_readPart) (as := [_, _, _]) dX12_readCheese_32 lk12_249 inX12_readPart seX12_readPart myX12_readPart (by decide) ⟨by decide, by decide⟩ rfl (kR15 hS143.1 ta0) (Nat.le_of_ble_eq_true rfl) rfl rfl (by decide) (by decide) (fk_X12_readPart hS143.1 (gB) ((tkN gB (tkN gB gs))) ta0 (by decide) (TxA.kp hT hS143 ta0 rfl rfl rfl (by decide +kernel) (by decide +kernel)) (by (try rw [c174]); first | done | with_reducible assumption | omega) (by (try rw [c174]); first | done | with_reducible assumption | omega) (by (try rw [c177]); first | done | with_reducible assumption | omega) (by (try rw [c180]); first | done | with_reducible assumption | omega) (by (try rw [c182]); first | done | assumption) (by (try rw [c184]); first | done | assumption) (by (try rw [c186]); first | done | assumption) (by (try rw [((hS143.cell ta0 (by decide +kernel)).trans c26)]); first | done | with_reducible assumption | omega)) ?_
      rintro v199 cn' K' N' I194 R195 L196 ⟨rfl, rfl, rfl, rfl, g197, dj200, -⟩
      (try rw [pk_15] at dj200)
      have hM201 : NmM I194 R0 L137 a1 gQ := NmM.kpS hM170 g197 hS143.1 ta1 (by decide +kernel) (by decide +kernel)
      have hS202 := hS143.tr g197 (by decide +kernel) (by decide +kernel)
      have c203 : I194 a1 3 = v41 := (g197.cell ta1 (by decide +kernel)).trans c144
      have hO204 : FrO 14 a1 T I0 I194 := hO145.st g197 (by decide +kernel)
      rcases dj200 with ⟨p205, p206, p207, p208, p209, p210, p211, p212, p213, p214, p215, p216, p217, p218, gl219, -⟩ | ⟨p220, p221, p222, p223, p224, -⟩ | ⟨p225, p226, p227, p228, p229, p230, p231, -⟩ | ⟨p232, p233, p234, p235, p236, p237, p238, p239, -⟩
      · skip
        have hL240 := hL169.tr gl219 (by decide +kernel)
        have hM241 : NmM I194 R0 L196 a1 gQ := NmM.kpL hM201 gl219 hS202.1 ta1 (by decide +kernel)
        obtain ⟨v242, c243⟩ : ∃ v, I194 a0 13 = v := ⟨_, rfl⟩
        rw [c243] at p211
        rw [c172] at p211
        obtain ⟨v244, c245⟩ : ∃ v, I194 a0 9 = v := ⟨_, rfl⟩
        have b246 := iv15_9 hS202.1 ta0 c245
        rw [c245] at p212
        rw [c245] at p213
        obtain ⟨v247, c248⟩ : ∃ v, I194 a0 10 = v := ⟨_, rfl⟩
        have b249 := iv15_10 hS202.1 ta0 c248
        rw [c248] at p214
        obtain ⟨v250, c251⟩ : ∃ v, I194 a0 11 = v := ⟨_, rfl⟩
        rw [c251] at p215
        obtain ⟨y252, c253⟩ : ∃ v, L196 a0 15 = v := ⟨_, rfl⟩
        rw [c253] at p216
        obtain ⟨v254, c255⟩ : ∃ v, I194 a0 12 = v := ⟨_, rfl⟩
        rw [c255] at p217
        obtain ⟨v256, c257⟩ : ∃ v, I194 a0 8 = v := ⟨_, rfl⟩
        have b258 := iv15_8 hS202.1 ta0 c257
        rw [c257] at p218
        replace hF := hF.neg (by exact om_28513e2f p206 p207)
        replace hP := hP.neg (by exact om_28513e2f p206 p207)
        replace hF := hF.neg (by exact om_10ed11b5 p208)
        replace hP := hP.neg (by exact om_10ed11b5 p208)
        replace hF := hF.neg (by exact om_4062d996 p36 w127 h189 h191 h193 p209 p210)
        replace hP := hP.neg (by exact om_4062d996 p36 w127 h189 h191 h193 p209 p210)
        refine tr_istore_n dX12_readCheese_35 (by decide) (by decide) ?_
        refine tr_aload_n dX12_readCheese_36 rfl ?_
        refine tr_ldcS dX12_readCheese_37 ld12_186 ?_
        refine q_callVi hE (M' := mX12_eatsWord) (as := [_]) dX12_readCheese_39 lk12_290 inX12_eatsWord seX12_eatsWord myX12_eatsWord (by decide) ⟨by decide, by decide⟩ rfl (kR15 hS202.1 ta0) (Nat.le_of_ble_eq_true rfl) rfl rfl (by decide) (by decide) (fk_X12_eatsWord hS202.1 (gB) ((tkN gB (tkN gB (tkN gB (tkN gB gs))))) ta0 (by decide) (TxA.kp hT hS202 ta0 rfl rfl rfl (by decide +kernel) (by decide +kernel)) (by (try rw [c245]); first | done | with_reducible assumption | omega) (by (try rw [c245]); first | done | with_reducible assumption | omega) (by (try rw [c248]); first | done | with_reducible assumption | omega) (by (try rw [c251]); first | done | with_reducible assumption | omega) (by (try rw [c253]); first | done | assumption) (by (try rw [c255]); first | done | assumption) (by (try rw [c257]); first | done | assumption) (by (try rw [((hS202.cell ta0 (by decide +kernel)).trans c26)]); first | done | with_reducible assumption | omega)) ?_
        rintro v264 cn' K' N' I259 R260 L261 ⟨rfl, rfl, rfl, rfl, g262, gl263, h265, dj266, -⟩
        (try rw [pk_10] at dj266)
        have hM267 : NmM I259 R0 L196 a1 gQ := NmM.kpS hM241 g262 hS202.1 ta1 (by decide +kernel) (by decide +kernel)
        have hS268 := hS202.tr g262 (by decide +kernel) (by decide +kernel)
        have c269 : I259 a1 3 = v41 := (g262.cell ta1 (by decide +kernel)).trans c203
        have c270 : I259 a0 13 = v242 := (g262.cell ta0 (by decide +kernel)).trans c243
        have hO271 : FrO 14 a1 T I0 I259 := hO204.st g262 (by decide +kernel)
        have hL272 := hL240.tr gl263 (by decide +kernel)
        have hM273 : NmM I259 R0 L261 a1 gQ := NmM.kpL hM267 gl263 hS268.1 ta1 (by decide +kernel)
        rcases dj266 with ⟨p274, p275, p276, p277, p278, p279, p280, p281, p282, p283, p284, -⟩ | ⟨p285, p286, p287, p288, p289, p290, p291, p292, p293, p294, -⟩
        · skip
          rw [c270] at p277
          rw [c243] at p277
          obtain ⟨v295, c296⟩ : ∃ v, I259 a0 9 = v := ⟨_, rfl⟩
          have b297 := iv15_9 hS268.1 ta0 c296
          rw [c296] at p278
          rw [c296] at p279
          obtain ⟨v298, c299⟩ : ∃ v, I259 a0 10 = v := ⟨_, rfl⟩
          have b300 := iv15_10 hS268.1 ta0 c299
          rw [c299] at p280
          obtain ⟨v301, c302⟩ : ∃ v, I259 a0 11 = v := ⟨_, rfl⟩
          rw [c302] at p281
          obtain ⟨y303, c304⟩ : ∃ v, L261 a0 15 = v := ⟨_, rfl⟩
          rw [c304] at p282
          obtain ⟨v305, c306⟩ : ∃ v, I259 a0 12 = v := ⟨_, rfl⟩
          rw [c306] at p283
          obtain ⟨v307, c308⟩ : ∃ v, I259 a0 8 = v := ⟨_, rfl⟩
          have b309 := iv15_8 hS268.1 ta0 c308
          rw [c308] at p284
          refine tr_istore dX12_readCheese_42 (by decide) (by decide) ?_
          refine tr_aload_n dX12_readCheese_44 rfl ?_
          refine q_getI dX12_readCheese_45 fl12_99 (kR15 hS268.1 ta0) c296 ?_
          refine q_iconst dX12_readCheese_48 (by decide) ?_
          intro v310 h311
          refine q_icmp_ne 53 dX12_readCheese_49 (by decide) (fun h312 => ?_) (fun h312 => ?_)
          · skip
            refine tr_aload_n dX12_readCheese_53 rfl ?_
            refine tr_lload_n dX12_readCheese_54 rfl ?_
            refine q_iconst dX12_readCheese_55 (by decide) ?_
            intro v313 h314
            refine tr_aload_n dX12_readCheese_56 rfl ?_
            refine tr_getR dX12_readCheese_57 fl12_188 (kR15 hS268.1 ta0) d2 ?_
            refine q_getI dX12_readCheese_60 fl12_224 (kR14 hS268.1 ta1) c269 ?_
            obtain ⟨v316, c317⟩ : ∃ v, I259 a1 7 = v := ⟨_, rfl⟩
            have b318 := iv14_7 hS268.1 ta1 c317
            have p315 := hS268.1.2.2.2.2.1 a0 ta0 _ d2
            rw [c317, c269, ((hS268.cell ta1 (by decide +kernel)).trans c46)] at p315
            refine q_callVv hE (M' := mX12_names) (as := [_, _, _]) dX12_readCheese_63 lk12_293 inX12_names seX12_names myX12_names (by decide) ⟨by decide, by decide⟩ rfl (kR15 hS268.1 ta0) (Nat.le_of_ble_eq_true rfl) rfl rfl (by decide) (by decide) (fk_X12_names hS268.1  ta0 (fun q0 z0 => by obtain rfl := Option.some.inj ((d2).symm.trans z0); (try rw [c317]); first | done | with_reducible assumption | exact om_23ab862a b31.2 b31.1 p32 b43.2 b43.1 p44 b47.2 b47.1 p48 h71 p83 p84 w126 w129 w130 p279 p278 b297.1 h311 h312 b318.2 b318.1 p315) ⟨_, d2⟩) ?_
            rintro cn' K' N' I319 R320 L321 ⟨rfl, rfl, rfl, rfl, g322, gl323, rp325, rp326, -⟩
            have hS327 := hS268.tr g322 (by decide +kernel) (by decide +kernel)
            have c328 : I319 a1 3 = v41 := (g322.cell ta1 (by decide +kernel)).trans c269
            have c329 : I319 a0 13 = v242 := (g322.cell ta0 (by decide +kernel)).trans c270
            have c330 : I319 a0 9 = v295 := (g322.cell ta0 (by decide +kernel)).trans c296
            have c331 : I319 a0 10 = v298 := (g322.cell ta0 (by decide +kernel)).trans c299
            have c332 : I319 a0 11 = v301 := (g322.cell ta0 (by decide +kernel)).trans c302
            have c333 : I319 a0 12 = v305 := (g322.cell ta0 (by decide +kernel)).trans c306
            have c334 : I319 a0 8 = v307 := (g322.cell ta0 (by decide +kernel)).trans c308
            have hO335 : FrO 14 a1 T I0 I319 := hO271.tr (rp326 _ d2)
            have hL336 := hL272.tr gl323 (by decide +kernel)
            have c337 : L321 a0 15 = y303 := (gl323.cell ta0 (by decide +kernel)).trans c304
            have hM338 := NmM.up5 (B := gB) (s := (tkN gB gs)) hM273 (rp325 _ d2) (by exact om_acd7a85a p146) (by exact om_29f55913 h314) (by rw [c317]; exact om_0e6fd8ee p44 p48 w129 w130 p315) (by exact om_a08708c7 b31.2 b31.1 p32 b43.2 b43.1 p44 p48 h71 p83 p84 w126 w129 w130 p279 p278 b297.1 h311 h312 p315) (by exact om_dd98535d p150)
            refine tr_aload_n dX12_readCheese_66 rfl ?_
            refine tr_getR dX12_readCheese_67 fl12_188 (kR15 hS327.1 ta0) d2 ?_
            refine tr_getR dX12_readCheese_70 fl12_296 (kR14 hS327.1 ta1) d67 ?_
            refine tr_aload_n dX12_readCheese_73 rfl ?_
            refine tr_getR dX12_readCheese_74 fl12_188 (kR15 hS327.1 ta0) d2 ?_
            refine q_getI dX12_readCheese_77 fl12_224 (kR14 hS327.1 ta1) c328 ?_
            refine tr_iload_n dX12_readCheese_80 rfl ?_
            refine q_iast dX12_readCheese_81 (kR58 hS327.1 ta66) (ti_in (nR58 hS327.1 ta66) (by exact om_99700672 b43.2 b43.1 p44 p48 w129 w130 p315) (by exact om_89edba19 b31.2 b31.1 p32 b43.2 b43.1 p44 p48 h71 p83 p84 w126 w129 w130 p279 p278 b297.1 h311 h312 p315)) hS327 ta66 (by show (0 : Int) ≤ v199.toInt ∧ v199.toInt ≤ (3 : Int); exact om_fe604db5 b35.2 b35.1 p36 w127 h189 h191 h193 p205 p209 p210) rfl (by rfl) ?_
            intro I339 hS340 e342 f341
            have c343 : I339 a1 3 = v41 := (f341 _ _ (fun q => by have z := ta1; rw [q.1, ta66] at z; exact absurd z (by decide))).trans c328
            have c344 : I339 a0 13 = v242 := (f341 _ _ (fun q => by have z := ta0; rw [q.1, ta66] at z; exact absurd z (by decide))).trans c329
            have c345 : I339 a0 9 = v295 := (f341 _ _ (fun q => by have z := ta0; rw [q.1, ta66] at z; exact absurd z (by decide))).trans c330
            have c346 : I339 a0 10 = v298 := (f341 _ _ (fun q => by have z := ta0; rw [q.1, ta66] at z; exact absurd z (by decide))).trans c331
            have c347 : I339 a0 11 = v301 := (f341 _ _ (fun q => by have z := ta0; rw [q.1, ta66] at z; exact absurd z (by decide))).trans c332
            have c348 : I339 a0 12 = v305 := (f341 _ _ (fun q => by have z := ta0; rw [q.1, ta66] at z; exact absurd z (by decide))).trans c333
            have c349 : I339 a0 8 = v307 := (f341 _ _ (fun q => by have z := ta0; rw [q.1, ta66] at z; exact absurd z (by decide))).trans c334
            have hO350 : FrO 14 a1 T I0 I339 := hO335.put f341 ta66 (Or.inl (by decide))
            have hM351 : NmM I339 R0 L321 a1 (bdQ gB gQ 5 (tkN gB gs)) := NmM.kp1 hM338 f341 ta66 rfl rfl hS327.1 ta1
            refine tr_aload_n dX12_readCheese_82 rfl ?_
            refine tr_getR dX12_readCheese_83 fl12_188 (kR15 hS340.1 ta0) d2 ?_
            refine tr_getR dX12_readCheese_86 fl12_299 (kR14 hS340.1 ta1) d69 ?_
            refine tr_aload_n dX12_readCheese_89 rfl ?_
            refine tr_getR dX12_readCheese_90 fl12_188 (kR15 hS340.1 ta0) d2 ?_
            refine q_getI dX12_readCheese_93 fl12_224 (kR14 hS340.1 ta1) c343 ?_
            refine tr_iload dX12_readCheese_96 rfl ?_
            refine q_zastE dX12_readCheese_98 (kR62 hS340.1 ta68) (ti_in (nR62 hS340.1 ta68) (by exact om_99700672 b43.2 b43.1 p44 p48 w129 w130 p315) (by exact om_89edba19 b31.2 b31.1 p32 b43.2 b43.1 p44 p48 h71 p83 p84 w126 w129 w130 p279 p278 b297.1 h311 h312 p315)) hS340 ta68 (by exact om_be53a44c h265) rfl rfl (by rfl) ?_
            intro I352 hS353 e355 f354
            have c356 : I352 a1 3 = v41 := (f354 _ _ (fun q => by have z := ta1; rw [q.1, ta68] at z; exact absurd z (by decide))).trans c343
            have c357 : I352 a0 13 = v242 := (f354 _ _ (fun q => by have z := ta0; rw [q.1, ta68] at z; exact absurd z (by decide))).trans c344
            have c358 : I352 a0 9 = v295 := (f354 _ _ (fun q => by have z := ta0; rw [q.1, ta68] at z; exact absurd z (by decide))).trans c345
            have c359 : I352 a0 10 = v298 := (f354 _ _ (fun q => by have z := ta0; rw [q.1, ta68] at z; exact absurd z (by decide))).trans c346
            have c360 : I352 a0 11 = v301 := (f354 _ _ (fun q => by have z := ta0; rw [q.1, ta68] at z; exact absurd z (by decide))).trans c347
            have c361 : I352 a0 12 = v305 := (f354 _ _ (fun q => by have z := ta0; rw [q.1, ta68] at z; exact absurd z (by decide))).trans c348
            have c362 : I352 a0 8 = v307 := (f354 _ _ (fun q => by have z := ta0; rw [q.1, ta68] at z; exact absurd z (by decide))).trans c349
            have hO363 : FrO 14 a1 T I0 I352 := hO350.put f354 ta68 (Or.inl (by decide))
            have hM364 : NmM I352 R0 L321 a1 (bdQ gB gQ 5 (tkN gB gs)) := NmM.kp1 hM351 f354 ta68 rfl rfl hS340.1 ta1
            refine tr_aload_n dX12_readCheese_99 rfl ?_
            refine tr_getR dX12_readCheese_100 fl12_188 (kR15 hS353.1 ta0) d2 ?_
            refine tr_dup dX12_readCheese_103 rfl ?_
            refine q_getI dX12_readCheese_104 fl12_224 (kR14 hS353.1 ta1) c356 ?_
            refine q_iconst dX12_readCheese_107 (by decide) ?_
            intro v365 h366
            refine q_iaddE dX12_readCheese_108 (by intro j1 j2 j3 j4; exact om_14ae938a b43.2 b43.1 p44 p48 w129 w130 p315 h366) ?_
            intro v367 h368
            refine q_putX dX12_readCheese_109 fl12_224 (kR14 hS353.1 ta1) (Or.inl rfl) hS353 ta1 (by decide +kernel) (hS353.1.putN (d' := 0) ta0 d2 (Or.inr (Or.inl rfl)) (by rw [c356]; exact om_aea7ac45 p44 p48 w129 w130 p315 h366 h368) (by decide) (by show (0 : Int) ≤ v367.toInt ∧ v367.toInt ≤ (8 : Int); exact om_6ef21116 b31.2 b31.1 p32 b43.2 b43.1 p44 p48 h71 p83 p84 w126 w129 w130 p279 p278 b297.1 h311 h312 p315 h366 h368)) ?_
            intro I369 hS370 e371 f372
            have c373 : I369 a0 13 = v242 := (f372 _ _ (fun q => absurd q.2 (by decide))).trans c357
            have c374 : I369 a0 9 = v295 := (f372 _ _ (fun q => absurd q.2 (by decide))).trans c358
            have c375 : I369 a0 10 = v298 := (f372 _ _ (fun q => absurd q.2 (by decide))).trans c359
            have c376 : I369 a0 11 = v301 := (f372 _ _ (fun q => absurd q.2 (by decide))).trans c360
            have c377 : I369 a0 12 = v305 := (f372 _ _ (fun q => absurd q.2 (by decide))).trans c361
            have c378 : I369 a0 8 = v307 := (f372 _ _ (fun q => absurd q.2 (by decide))).trans c362
            have hO379 : FrO 14 a1 T I0 I369 := hO363.put f372 ta1 (Or.inr rfl)
            have hM380 : NmM I369 R0 L321 a1 (bdQ gB gQ 5 (tkN gB gs)) := NmM.kp1 hM364 f372 ta1 rfl rfl hS353.1 ta1
            have eF := hF.eq
            have eP := hP.eq
            have es381 : chS gB gQ (tkN gB gs) = (tkN gB (tkN gB (tkN gB (tkN gB (tkN gB gs))))) := by exact om_67758a6f p275 p276
            obtain ⟨v382, c383⟩ : ∃ v, I369 a0 14 = v := ⟨_, rfl⟩
            exact tr_vret hZ dX12_readCheese_112 rfl (by decide) (by decide) ⟨rfl, rfl, rfl, rfl, rfl, hS370, (fun b hb => (Option.some.inj (d2.symm.trans hb)) ▸ (((((((((FrM.rf (R := R0) (b := a1) (T := T)).st g75 (by decide +kernel)).st g138 (by decide +kernel)).st g197 (by decide +kernel)).st g262 (by decide +kernel)).st g322 (by decide +kernel)).pu f341 (by decide) (by decide) d67).pu f354 (by decide) (by decide) d69).put f372 ta1 (by decide))), (fun dr hd => (Option.some.inj (d2.symm.trans hd)) ▸ hO379), (Or.inl ⟨(by (try rw [w125]); (try rw [es381]); first | done | with_reducible assumption | omega), (fun q0 z0 => by obtain rfl := Option.some.inj ((d2).symm.trans z0); (try rw [w125]); (try rw [es381]); (try rw [((hS370.cell ta1 (by decide +kernel)).trans c30)]); first | done | with_reducible assumption | exact om_2757374c p32 w126), (fun q0 z0 => by obtain rfl := Option.some.inj ((d2).symm.trans z0); (try rw [w125]); (try rw [es381]); (try rw [((hS370.cell ta1 (by decide +kernel)).trans c34)]); first | done | with_reducible assumption | exact om_2757374c p36 w127), (fun q0 z0 => by obtain rfl := Option.some.inj ((d2).symm.trans z0); (try rw [w125]); (try rw [es381]); (try rw [((hS370.cell ta1 (by decide +kernel)).trans c38)]); first | done | with_reducible assumption | exact om_2757374c p40 w128), (fun q0 z0 => by obtain rfl := Option.some.inj ((d2).symm.trans z0); (try rw [w125]); (try rw [es381]); (try rw [e371]); first | done | with_reducible assumption | exact om_4c7af473 p44 p48 w129 w130 p315 h366 h368), (fun q0 z0 => by obtain rfl := Option.some.inj ((d2).symm.trans z0); (try rw [w125]); (try rw [es381]); (try rw [((hS370.cell ta1 (by decide +kernel)).trans c46)]); first | done | with_reducible assumption | exact om_2757374c p48 w130), (fun q0 z0 => by obtain rfl := Option.some.inj ((d2).symm.trans z0); (try rw [w125]); (try rw [es381]); (try rw [((hS370.cell ta1 (by decide +kernel)).trans c50)]); first | done | with_reducible assumption | exact om_2757374c p52 w131), (fun q0 z0 => by obtain rfl := Option.some.inj ((d2).symm.trans z0); (try rw [w125]); (try rw [es381]); (try rw [((hS370.cell ta1 (by decide +kernel)).trans c54)]); first | done | with_reducible assumption | exact om_2757374c p56 w132), (fun q0 z0 => by obtain rfl := Option.some.inj ((d2).symm.trans z0); (try rw [w125]); (try rw [es381]); (try rw [((hS370.cell ta1 (by decide +kernel)).trans c58)]); first | done | with_reducible assumption | exact om_2757374c p60 w134), (by (try rw [w125]); (try rw [es381]); (try rw [c373]); (try rw [c65]); first | done | with_reducible assumption | exact om_1c22ab7e p85 p151 p211), (by (try rw [w125]); (try rw [es381]); (try rw [c374]); first | done | with_reducible assumption | omega), (by (try rw [w125]); (try rw [es381]); (try rw [c374]); first | done | with_reducible assumption | omega), (by (try rw [w125]); (try rw [es381]); (try rw [c375]); first | done | with_reducible assumption | omega), (by (try rw [w125]); (try rw [es381]); (try rw [c376]); first | done | with_reducible assumption | omega), (by (try rw [w125]); (try rw [es381]); (try rw [c337]); first | done | assumption), (by (try rw [w125]); (try rw [es381]); (try rw [c377]); first | done | assumption), (by (try rw [w125]); (try rw [es381]); (try rw [c378]); first | done | assumption), hL336, (fun b hb => (Option.some.inj (d2.symm.trans hb)) ▸ NmM.ln hM380 (by exact om_394b70a2 p63)), (fun E b hb hE => by obtain rfl := Option.some.inj (d2.symm.trans hb); exact AlM.ch hE hW0 ta1 (by exact om_394b70a2 p63) (by exact om_15d6bb68 b43.2 b43.1 p44 p48 w129 w130 p315 h366 h368) (hS370.cell ta1 (by decide +kernel)) (fun a j h n1 n2 => hS370.2.1 a j (wm_p (p := fun r => !(rdm r) || (Nat.beq r 58 || Nat.beq r 62)) (by decide +kernel) (by rw [h, nbq n1, nbq n2]; rfl))) (fun a ha => by obtain rfl := Option.some.inj (d67.symm.trans ha); have zi : v41.toNatClampNeg = (gQ 3).toNat := congrArg Int.toNat (by exact om_acd7a85a p44); have ze := (Eq.trans ((f372 _ _ (fun q => by have z := ta66; rw [q.1, ta1] at z; exact absurd z (by decide))).trans (f354 _ _ (fun q => by have z := ta66; rw [q.1, ta68] at z; exact absurd z (by decide)))) e342); rw [zi] at ze; exact ⟨by rw [ze]; (try simp only [dnD, ↓reduceIte]); repeat' (first | split | exact om_acd7a85a p205), fun j hj => ((f372 _ _ (fun q => by have z := ta66; rw [q.1, ta1] at z; exact absurd z (by decide))).trans ((f354 _ _ (fun q => by have z := ta66; rw [q.1, ta68] at z; exact absurd z (by decide))).trans ((f341 _ _ (fun q => hj (q.2.trans zi))).trans ((g322.cell ta66 (wm_no (by decide +kernel))).trans ((g262.cell ta66 (wm_no (by decide +kernel))).trans ((g197.cell ta66 (wm_no (by decide +kernel))).trans ((g138.cell ta66 (wm_no (by decide +kernel))).trans (g75.cell ta66 (wm_no (by decide +kernel))))))))))⟩) (fun a ha => by obtain rfl := Option.some.inj (d69.symm.trans ha); have zi : v41.toNatClampNeg = (gQ 3).toNat := congrArg Int.toNat (by exact om_acd7a85a p44); have ze := (Eq.trans (f372 _ _ (fun q => by have z := ta68; rw [q.1, ta1] at z; exact absurd z (by decide))) e355); rw [zi] at ze; exact ⟨by rw [ze]; (try simp only [dnD, ↓reduceIte]); repeat' (first | split | omega), fun j hj => ((f372 _ _ (fun q => by have z := ta68; rw [q.1, ta1] at z; exact absurd z (by decide))).trans ((f354 _ _ (fun q => hj (q.2.trans zi))).trans ((f341 _ _ (fun q => by have z := ta68; rw [q.1, ta66] at z; exact absurd z (by decide))).trans ((g322.cell ta68 (wm_no (by decide +kernel))).trans ((g262.cell ta68 (wm_no (by decide +kernel))).trans ((g197.cell ta68 (wm_no (by decide +kernel))).trans ((g138.cell ta68 (wm_no (by decide +kernel))).trans (g75.cell ta68 (wm_no (by decide +kernel))))))))))⟩)), trivial⟩), trivial⟩
          · skip
            exfalso; exact om_99cda0b7 p279 p278 b297.1 h311 h312
        · skip
          rw [c270] at p287
          rw [c243] at p287
          obtain ⟨v384, c385⟩ : ∃ v, I259 a0 9 = v := ⟨_, rfl⟩
          have b386 := iv15_9 hS268.1 ta0 c385
          rw [c385] at p288
          rw [c385] at p289
          obtain ⟨v387, c388⟩ : ∃ v, I259 a0 10 = v := ⟨_, rfl⟩
          have b389 := iv15_10 hS268.1 ta0 c388
          rw [c388] at p290
          obtain ⟨v390, c391⟩ : ∃ v, I259 a0 11 = v := ⟨_, rfl⟩
          rw [c391] at p291
          obtain ⟨y392, c393⟩ : ∃ v, L261 a0 15 = v := ⟨_, rfl⟩
          rw [c393] at p292
          obtain ⟨v394, c395⟩ : ∃ v, I259 a0 12 = v := ⟨_, rfl⟩
          rw [c395] at p293
          obtain ⟨v396, c397⟩ : ∃ v, I259 a0 8 = v := ⟨_, rfl⟩
          have b398 := iv15_8 hS268.1 ta0 c397
          rw [c397] at p294
          refine tr_istore dX12_readCheese_42 (by decide) (by decide) ?_
          refine tr_aload_n dX12_readCheese_44 rfl ?_
          refine q_getI dX12_readCheese_45 fl12_99 (kR15 hS268.1 ta0) c385 ?_
          refine q_iconst dX12_readCheese_48 (by decide) ?_
          intro v399 h400
          refine q_icmp_ne 53 dX12_readCheese_49 (by decide) (fun h401 => ?_) (fun h401 => ?_)
          · skip
            refine tr_aload_n dX12_readCheese_53 rfl ?_
            refine tr_lload_n dX12_readCheese_54 rfl ?_
            refine q_iconst dX12_readCheese_55 (by decide) ?_
            intro v402 h403
            refine tr_aload_n dX12_readCheese_56 rfl ?_
            refine tr_getR dX12_readCheese_57 fl12_188 (kR15 hS268.1 ta0) d2 ?_
            refine q_getI dX12_readCheese_60 fl12_224 (kR14 hS268.1 ta1) c269 ?_
            obtain ⟨v405, c406⟩ : ∃ v, I259 a1 7 = v := ⟨_, rfl⟩
            have b407 := iv14_7 hS268.1 ta1 c406
            have p404 := hS268.1.2.2.2.2.1 a0 ta0 _ d2
            rw [c406, c269, ((hS268.cell ta1 (by decide +kernel)).trans c46)] at p404
            refine q_callVv hE (M' := mX12_names) (as := [_, _, _]) dX12_readCheese_63 lk12_293 inX12_names seX12_names myX12_names (by decide) ⟨by decide, by decide⟩ rfl (kR15 hS268.1 ta0) (Nat.le_of_ble_eq_true rfl) rfl rfl (by decide) (by decide) (fk_X12_names hS268.1  ta0 (fun q0 z0 => by obtain rfl := Option.some.inj ((d2).symm.trans z0); (try rw [c406]); first | done | with_reducible assumption | exact om_561a89a6 b31.2 b31.1 p32 b43.2 b43.1 p44 b47.2 b47.1 p48 h71 p83 p84 w126 w129 w130 p213 p212 b246.1 p288 h400 h401 b407.2 b407.1 p404) ⟨_, d2⟩) ?_
            rintro cn' K' N' I408 R409 L410 ⟨rfl, rfl, rfl, rfl, g411, gl412, rp414, rp415, -⟩
            have hS416 := hS268.tr g411 (by decide +kernel) (by decide +kernel)
            have c417 : I408 a1 3 = v41 := (g411.cell ta1 (by decide +kernel)).trans c269
            have c418 : I408 a0 13 = v242 := (g411.cell ta0 (by decide +kernel)).trans c270
            have c419 : I408 a0 9 = v384 := (g411.cell ta0 (by decide +kernel)).trans c385
            have c420 : I408 a0 10 = v387 := (g411.cell ta0 (by decide +kernel)).trans c388
            have c421 : I408 a0 11 = v390 := (g411.cell ta0 (by decide +kernel)).trans c391
            have c422 : I408 a0 12 = v394 := (g411.cell ta0 (by decide +kernel)).trans c395
            have c423 : I408 a0 8 = v396 := (g411.cell ta0 (by decide +kernel)).trans c397
            have hO424 : FrO 14 a1 T I0 I408 := hO271.tr (rp415 _ d2)
            have hL425 := hL272.tr gl412 (by decide +kernel)
            have c426 : L410 a0 15 = y392 := (gl412.cell ta0 (by decide +kernel)).trans c393
            have hM427 := NmM.up5 (B := gB) (s := (tkN gB gs)) hM273 (rp414 _ d2) (by exact om_acd7a85a p146) (by exact om_29f55913 h403) (by rw [c406]; exact om_0e6fd8ee p44 p48 w129 w130 p404) (by exact om_05d0944a b31.2 b31.1 p32 b43.2 b43.1 p44 p48 h71 p83 p84 w126 w129 w130 p213 p212 b246.1 p288 h400 h401 p404) (by exact om_dd98535d p150)
            refine tr_aload_n dX12_readCheese_66 rfl ?_
            refine tr_getR dX12_readCheese_67 fl12_188 (kR15 hS416.1 ta0) d2 ?_
            refine tr_getR dX12_readCheese_70 fl12_296 (kR14 hS416.1 ta1) d67 ?_
            refine tr_aload_n dX12_readCheese_73 rfl ?_
            refine tr_getR dX12_readCheese_74 fl12_188 (kR15 hS416.1 ta0) d2 ?_
            refine q_getI dX12_readCheese_77 fl12_224 (kR14 hS416.1 ta1) c417 ?_
            refine tr_iload_n dX12_readCheese_80 rfl ?_
            refine q_iast dX12_readCheese_81 (kR58 hS416.1 ta66) (ti_in (nR58 hS416.1 ta66) (by exact om_99700672 b43.2 b43.1 p44 p48 w129 w130 p404) (by exact om_1e325ab1 b31.2 b31.1 p32 b43.2 b43.1 p44 p48 h71 p83 p84 w126 w129 w130 p213 p212 b246.1 p288 h400 h401 p404)) hS416 ta66 (by show (0 : Int) ≤ v199.toInt ∧ v199.toInt ≤ (3 : Int); exact om_fe604db5 b35.2 b35.1 p36 w127 h189 h191 h193 p205 p209 p210) rfl (by rfl) ?_
            intro I428 hS429 e431 f430
            have c432 : I428 a1 3 = v41 := (f430 _ _ (fun q => by have z := ta1; rw [q.1, ta66] at z; exact absurd z (by decide))).trans c417
            have c433 : I428 a0 13 = v242 := (f430 _ _ (fun q => by have z := ta0; rw [q.1, ta66] at z; exact absurd z (by decide))).trans c418
            have c434 : I428 a0 9 = v384 := (f430 _ _ (fun q => by have z := ta0; rw [q.1, ta66] at z; exact absurd z (by decide))).trans c419
            have c435 : I428 a0 10 = v387 := (f430 _ _ (fun q => by have z := ta0; rw [q.1, ta66] at z; exact absurd z (by decide))).trans c420
            have c436 : I428 a0 11 = v390 := (f430 _ _ (fun q => by have z := ta0; rw [q.1, ta66] at z; exact absurd z (by decide))).trans c421
            have c437 : I428 a0 12 = v394 := (f430 _ _ (fun q => by have z := ta0; rw [q.1, ta66] at z; exact absurd z (by decide))).trans c422
            have c438 : I428 a0 8 = v396 := (f430 _ _ (fun q => by have z := ta0; rw [q.1, ta66] at z; exact absurd z (by decide))).trans c423
            have hO439 : FrO 14 a1 T I0 I428 := hO424.put f430 ta66 (Or.inl (by decide))
            have hM440 : NmM I428 R0 L410 a1 (bdQ gB gQ 5 (tkN gB gs)) := NmM.kp1 hM427 f430 ta66 rfl rfl hS416.1 ta1
            refine tr_aload_n dX12_readCheese_82 rfl ?_
            refine tr_getR dX12_readCheese_83 fl12_188 (kR15 hS429.1 ta0) d2 ?_
            refine tr_getR dX12_readCheese_86 fl12_299 (kR14 hS429.1 ta1) d69 ?_
            refine tr_aload_n dX12_readCheese_89 rfl ?_
            refine tr_getR dX12_readCheese_90 fl12_188 (kR15 hS429.1 ta0) d2 ?_
            refine q_getI dX12_readCheese_93 fl12_224 (kR14 hS429.1 ta1) c432 ?_
            refine tr_iload dX12_readCheese_96 rfl ?_
            refine q_zastE dX12_readCheese_98 (kR62 hS429.1 ta68) (ti_in (nR62 hS429.1 ta68) (by exact om_99700672 b43.2 b43.1 p44 p48 w129 w130 p404) (by exact om_1e325ab1 b31.2 b31.1 p32 b43.2 b43.1 p44 p48 h71 p83 p84 w126 w129 w130 p213 p212 b246.1 p288 h400 h401 p404)) hS429 ta68 (by exact om_be53a44c h265) rfl rfl (by rfl) ?_
            intro I441 hS442 e444 f443
            have c445 : I441 a1 3 = v41 := (f443 _ _ (fun q => by have z := ta1; rw [q.1, ta68] at z; exact absurd z (by decide))).trans c432
            have c446 : I441 a0 13 = v242 := (f443 _ _ (fun q => by have z := ta0; rw [q.1, ta68] at z; exact absurd z (by decide))).trans c433
            have c447 : I441 a0 9 = v384 := (f443 _ _ (fun q => by have z := ta0; rw [q.1, ta68] at z; exact absurd z (by decide))).trans c434
            have c448 : I441 a0 10 = v387 := (f443 _ _ (fun q => by have z := ta0; rw [q.1, ta68] at z; exact absurd z (by decide))).trans c435
            have c449 : I441 a0 11 = v390 := (f443 _ _ (fun q => by have z := ta0; rw [q.1, ta68] at z; exact absurd z (by decide))).trans c436
            have c450 : I441 a0 12 = v394 := (f443 _ _ (fun q => by have z := ta0; rw [q.1, ta68] at z; exact absurd z (by decide))).trans c437
            have c451 : I441 a0 8 = v396 := (f443 _ _ (fun q => by have z := ta0; rw [q.1, ta68] at z; exact absurd z (by decide))).trans c438
            have hO452 : FrO 14 a1 T I0 I441 := hO439.put f443 ta68 (Or.inl (by decide))
            have hM453 : NmM I441 R0 L410 a1 (bdQ gB gQ 5 (tkN gB gs)) := NmM.kp1 hM440 f443 ta68 rfl rfl hS429.1 ta1
            refine tr_aload_n dX12_readCheese_99 rfl ?_
            refine tr_getR dX12_readCheese_100 fl12_188 (kR15 hS442.1 ta0) d2 ?_
            refine tr_dup dX12_readCheese_103 rfl ?_
            refine q_getI dX12_readCheese_104 fl12_224 (kR14 hS442.1 ta1) c445 ?_
            refine q_iconst dX12_readCheese_107 (by decide) ?_
            intro v454 h455
            refine q_iaddE dX12_readCheese_108 (by intro j1 j2 j3 j4; exact om_14ae938a b43.2 b43.1 p44 p48 w129 w130 p404 h455) ?_
            intro v456 h457
            refine q_putX dX12_readCheese_109 fl12_224 (kR14 hS442.1 ta1) (Or.inl rfl) hS442 ta1 (by decide +kernel) (hS442.1.putN (d' := 0) ta0 d2 (Or.inr (Or.inl rfl)) (by rw [c445]; exact om_aea7ac45 p44 p48 w129 w130 p404 h455 h457) (by decide) (by show (0 : Int) ≤ v456.toInt ∧ v456.toInt ≤ (8 : Int); exact om_cbe75ff8 b31.2 b31.1 p32 b43.2 b43.1 p44 p48 h71 p83 p84 w126 w129 w130 p213 p212 b246.1 p288 h400 h401 p404 h455 h457)) ?_
            intro I458 hS459 e460 f461
            have c462 : I458 a0 13 = v242 := (f461 _ _ (fun q => absurd q.2 (by decide))).trans c446
            have c463 : I458 a0 9 = v384 := (f461 _ _ (fun q => absurd q.2 (by decide))).trans c447
            have c464 : I458 a0 10 = v387 := (f461 _ _ (fun q => absurd q.2 (by decide))).trans c448
            have c465 : I458 a0 11 = v390 := (f461 _ _ (fun q => absurd q.2 (by decide))).trans c449
            have c466 : I458 a0 12 = v394 := (f461 _ _ (fun q => absurd q.2 (by decide))).trans c450
            have c467 : I458 a0 8 = v396 := (f461 _ _ (fun q => absurd q.2 (by decide))).trans c451
            have hO468 : FrO 14 a1 T I0 I458 := hO452.put f461 ta1 (Or.inr rfl)
            have hM469 : NmM I458 R0 L410 a1 (bdQ gB gQ 5 (tkN gB gs)) := NmM.kp1 hM453 f461 ta1 rfl rfl hS442.1 ta1
            have eF := hF.eq
            have eP := hP.eq
            have p471 := p286
            unfold NotW at p471
            have es470 : chS gB gQ (tkN gB gs) = (tkN gB (tkN gB (tkN gB (tkN gB gs)))) := by exact om_e6f2822f p471
            obtain ⟨v472, c473⟩ : ∃ v, I458 a0 14 = v := ⟨_, rfl⟩
            exact tr_vret hZ dX12_readCheese_112 rfl (by decide) (by decide) ⟨rfl, rfl, rfl, rfl, rfl, hS459, (fun b hb => (Option.some.inj (d2.symm.trans hb)) ▸ (((((((((FrM.rf (R := R0) (b := a1) (T := T)).st g75 (by decide +kernel)).st g138 (by decide +kernel)).st g197 (by decide +kernel)).st g262 (by decide +kernel)).st g411 (by decide +kernel)).pu f430 (by decide) (by decide) d67).pu f443 (by decide) (by decide) d69).put f461 ta1 (by decide))), (fun dr hd => (Option.some.inj (d2.symm.trans hd)) ▸ hO468), (Or.inl ⟨(by (try rw [w125]); (try rw [es470]); first | done | with_reducible assumption | omega), (fun q0 z0 => by obtain rfl := Option.some.inj ((d2).symm.trans z0); (try rw [w125]); (try rw [es470]); (try rw [((hS459.cell ta1 (by decide +kernel)).trans c30)]); first | done | with_reducible assumption | exact om_2757374c p32 w126), (fun q0 z0 => by obtain rfl := Option.some.inj ((d2).symm.trans z0); (try rw [w125]); (try rw [es470]); (try rw [((hS459.cell ta1 (by decide +kernel)).trans c34)]); first | done | with_reducible assumption | exact om_2757374c p36 w127), (fun q0 z0 => by obtain rfl := Option.some.inj ((d2).symm.trans z0); (try rw [w125]); (try rw [es470]); (try rw [((hS459.cell ta1 (by decide +kernel)).trans c38)]); first | done | with_reducible assumption | exact om_2757374c p40 w128), (fun q0 z0 => by obtain rfl := Option.some.inj ((d2).symm.trans z0); (try rw [w125]); (try rw [es470]); (try rw [e460]); first | done | with_reducible assumption | exact om_4c7af473 p44 p48 w129 w130 p404 h455 h457), (fun q0 z0 => by obtain rfl := Option.some.inj ((d2).symm.trans z0); (try rw [w125]); (try rw [es470]); (try rw [((hS459.cell ta1 (by decide +kernel)).trans c46)]); first | done | with_reducible assumption | exact om_2757374c p48 w130), (fun q0 z0 => by obtain rfl := Option.some.inj ((d2).symm.trans z0); (try rw [w125]); (try rw [es470]); (try rw [((hS459.cell ta1 (by decide +kernel)).trans c50)]); first | done | with_reducible assumption | exact om_2757374c p52 w131), (fun q0 z0 => by obtain rfl := Option.some.inj ((d2).symm.trans z0); (try rw [w125]); (try rw [es470]); (try rw [((hS459.cell ta1 (by decide +kernel)).trans c54)]); first | done | with_reducible assumption | exact om_2757374c p56 w132), (fun q0 z0 => by obtain rfl := Option.some.inj ((d2).symm.trans z0); (try rw [w125]); (try rw [es470]); (try rw [((hS459.cell ta1 (by decide +kernel)).trans c58)]); first | done | with_reducible assumption | exact om_2757374c p60 w134), (by (try rw [w125]); (try rw [es470]); (try rw [c462]); (try rw [c65]); first | done | with_reducible assumption | exact om_1c22ab7e p85 p151 p211), (by (try rw [w125]); (try rw [es470]); (try rw [c463]); first | done | with_reducible assumption | omega), (by (try rw [w125]); (try rw [es470]); (try rw [c463]); first | done | with_reducible assumption | omega), (by (try rw [w125]); (try rw [es470]); (try rw [c464]); first | done | with_reducible assumption | omega), (by (try rw [w125]); (try rw [es470]); (try rw [c465]); first | done | with_reducible assumption | omega), (by (try rw [w125]); (try rw [es470]); (try rw [c426]); first | done | assumption), (by (try rw [w125]); (try rw [es470]); (try rw [c466]); first | done | assumption), (by (try rw [w125]); (try rw [es470]); (try rw [c467]); first | done | assumption), hL425, (fun b hb => (Option.some.inj (d2.symm.trans hb)) ▸ NmM.ln hM469 (by exact om_394b70a2 p63)), (fun E b hb hE => by obtain rfl := Option.some.inj (d2.symm.trans hb); exact AlM.ch hE hW0 ta1 (by exact om_394b70a2 p63) (by exact om_15d6bb68 b43.2 b43.1 p44 p48 w129 w130 p404 h455 h457) (hS459.cell ta1 (by decide +kernel)) (fun a j h n1 n2 => hS459.2.1 a j (wm_p (p := fun r => !(rdm r) || (Nat.beq r 58 || Nat.beq r 62)) (by decide +kernel) (by rw [h, nbq n1, nbq n2]; rfl))) (fun a ha => by obtain rfl := Option.some.inj (d67.symm.trans ha); have zi : v41.toNatClampNeg = (gQ 3).toNat := congrArg Int.toNat (by exact om_acd7a85a p44); have ze := (Eq.trans ((f461 _ _ (fun q => by have z := ta66; rw [q.1, ta1] at z; exact absurd z (by decide))).trans (f443 _ _ (fun q => by have z := ta66; rw [q.1, ta68] at z; exact absurd z (by decide)))) e431); rw [zi] at ze; exact ⟨by rw [ze]; (try simp only [dnD, ↓reduceIte]); repeat' (first | split | exact om_acd7a85a p205), fun j hj => ((f461 _ _ (fun q => by have z := ta66; rw [q.1, ta1] at z; exact absurd z (by decide))).trans ((f443 _ _ (fun q => by have z := ta66; rw [q.1, ta68] at z; exact absurd z (by decide))).trans ((f430 _ _ (fun q => hj (q.2.trans zi))).trans ((g411.cell ta66 (wm_no (by decide +kernel))).trans ((g262.cell ta66 (wm_no (by decide +kernel))).trans ((g197.cell ta66 (wm_no (by decide +kernel))).trans ((g138.cell ta66 (wm_no (by decide +kernel))).trans (g75.cell ta66 (wm_no (by decide +kernel))))))))))⟩) (fun a ha => by obtain rfl := Option.some.inj (d69.symm.trans ha); have zi : v41.toNatClampNeg = (gQ 3).toNat := congrArg Int.toNat (by exact om_acd7a85a p44); have ze := (Eq.trans (f461 _ _ (fun q => by have z := ta68; rw [q.1, ta1] at z; exact absurd z (by decide))) e444); rw [zi] at ze; exact ⟨by rw [ze]; (try simp only [dnD, ↓reduceIte]); repeat' (first | split | omega), fun j hj => ((f461 _ _ (fun q => by have z := ta68; rw [q.1, ta1] at z; exact absurd z (by decide))).trans ((f443 _ _ (fun q => hj (q.2.trans zi))).trans ((f430 _ _ (fun q => by have z := ta68; rw [q.1, ta66] at z; exact absurd z (by decide))).trans ((g411.cell ta68 (wm_no (by decide +kernel))).trans ((g262.cell ta68 (wm_no (by decide +kernel))).trans ((g197.cell ta68 (wm_no (by decide +kernel))).trans ((g138.cell ta68 (wm_no (by decide +kernel))).trans (g75.cell ta68 (wm_no (by decide +kernel))))))))))⟩)), trivial⟩), trivial⟩
          · skip
            exfalso; exact om_ab4be5f1 p213 p212 b246.1 p288 h400 h401
      · skip
        obtain ⟨v474, c475⟩ : ∃ v, I194 a0 9 = v := ⟨_, rfl⟩
        have b476 := iv15_9 hS202.1 ta0 c475
        rw [c475] at p222
        obtain ⟨v477, c478⟩ : ∃ v, I194 a0 13 = v := ⟨_, rfl⟩
        rw [c478] at p223
        obtain ⟨v479, c480⟩ : ∃ v, I194 a0 14 = v := ⟨_, rfl⟩
        rw [c480] at p224
        replace hF := hF.pos (by exact om_88932fbe p221)
        replace hP := hP.pos (by exact om_88932fbe p221)
        refine tr_istore_n dX12_readCheese_35 (by decide) (by decide) ?_
        refine tr_aload_n dX12_readCheese_36 rfl ?_
        refine tr_ldcS dX12_readCheese_37 ld12_186 ?_
        refine q_callVi hE (M' := mX12_eatsWord) (as := [_]) dX12_readCheese_39 lk12_290 inX12_eatsWord seX12_eatsWord myX12_eatsWord (by decide) ⟨by decide, by decide⟩ rfl (kR15 hS202.1 ta0) (Nat.le_of_ble_eq_true rfl) rfl rfl (by decide) (by decide) (k_X12_eatsWord hS202.1 ta0 (by decide)) ?_
        rintro v485 cn' K' N' I481 R482 L483 ⟨rfl, rfl, rfl, rfl, g484, h486, w487, -⟩
        have hS488 := hS202.tr g484 (by decide +kernel) (by decide +kernel)
        have c489 : I481 a1 3 = v41 := (g484.cell ta1 (by decide +kernel)).trans c203
        have c490 : I481 a0 13 = v477 := (g484.cell ta0 (by decide +kernel)).trans c478
        have c491 : I481 a0 14 = v479 := (g484.cell ta0 (by decide +kernel)).trans c480
        have hO492 : FrO 14 a1 T I0 I481 := hO204.st g484 (by decide +kernel)
        have ov493 := w487.over (by rw [c475]; exact om_394b70a2 p222)
        obtain ⟨v494, c495⟩ : ∃ v, I481 a0 9 = v := ⟨_, rfl⟩
        have b496 := iv15_9 hS488.1 ta0 c495
        obtain ⟨v497, c498⟩ : ∃ v, I481 a0 13 = v := ⟨_, rfl⟩
        obtain ⟨v499, c500⟩ : ∃ v, I481 a0 14 = v := ⟨_, rfl⟩
        (try rw [c495] at ov493)
        (try rw [c498] at ov493)
        (try rw [c500] at ov493)
        (try rw [c475] at ov493)
        (try rw [c478] at ov493)
        (try rw [c480] at ov493)
        refine tr_istore dX12_readCheese_42 (by decide) (by decide) ?_
        refine tr_aload_n dX12_readCheese_44 rfl ?_
        refine q_getI dX12_readCheese_45 fl12_99 (kR15 hS488.1 ta0) c495 ?_
        refine q_iconst dX12_readCheese_48 (by decide) ?_
        intro v501 h502
        refine q_icmp_ne 53 dX12_readCheese_49 (by decide) (fun h503 => ?_) (fun h503 => ?_)
        · skip
          exfalso; exact om_1fa3e129 ov493.1 h502 h503
        · skip
          have eF := hF.eq
          have eP := hP.eq
          obtain ⟨v504, c505⟩ : ∃ v, I481 a0 10 = v := ⟨_, rfl⟩
          have b506 := iv15_10 hS488.1 ta0 c505
          obtain ⟨v507, c508⟩ : ∃ v, I481 a0 11 = v := ⟨_, rfl⟩
          obtain ⟨y509, c510⟩ : ∃ v, L483 a0 15 = v := ⟨_, rfl⟩
          obtain ⟨v511, c512⟩ : ∃ v, I481 a0 12 = v := ⟨_, rfl⟩
          obtain ⟨v513, c514⟩ : ∃ v, I481 a0 8 = v := ⟨_, rfl⟩
          have b515 := iv15_8 hS488.1 ta0 c514
          exact tr_vret hZ dX12_readCheese_52 rfl (by decide) (by decide) ⟨rfl, rfl, rfl, rfl, rfl, hS488, (fun b hb => (Option.some.inj (d2.symm.trans hb)) ▸ (((((FrM.rf (R := R0) (b := a1) (T := T)).st g75 (by decide +kernel)).st g138 (by decide +kernel)).st g197 (by decide +kernel)).st g484 (by decide +kernel))), (fun dr hd => (Option.some.inj (d2.symm.trans hd)) ▸ hO492), (Or.inr (⟨(by (try rw [w125]); first | done | with_reducible assumption | exact om_7fac24c5 eF), (by (try rw [w125]); (try rw [c495]); first | done | with_reducible assumption | exact om_394b70a2 ov493.1), (by (try rw [w125]); (try rw [c498]); first | done | with_reducible assumption | exact om_9adad658 p223 ov493.2.1 eF), (by (try rw [w125]); (try rw [c500]); first | done | with_reducible assumption | exact om_3998a42e p224 ov493.2.2 eP), trivial⟩)), trivial⟩
      · skip
        obtain ⟨v516, c517⟩ : ∃ v, I194 a0 9 = v := ⟨_, rfl⟩
        have b518 := iv15_9 hS202.1 ta0 c517
        rw [c517] at p229
        obtain ⟨v519, c520⟩ : ∃ v, I194 a0 13 = v := ⟨_, rfl⟩
        rw [c520] at p230
        obtain ⟨v521, c522⟩ : ∃ v, I194 a0 14 = v := ⟨_, rfl⟩
        rw [c522] at p231
        replace hF := hF.neg (by exact om_28513e2f p226 p227)
        replace hP := hP.neg (by exact om_28513e2f p226 p227)
        replace hF := hF.pos (by exact om_73cc8e29 p228)
        replace hP := hP.pos (by exact om_73cc8e29 p228)
        refine tr_istore_n dX12_readCheese_35 (by decide) (by decide) ?_
        refine tr_aload_n dX12_readCheese_36 rfl ?_
        refine tr_ldcS dX12_readCheese_37 ld12_186 ?_
        refine q_callVi hE (M' := mX12_eatsWord) (as := [_]) dX12_readCheese_39 lk12_290 inX12_eatsWord seX12_eatsWord myX12_eatsWord (by decide) ⟨by decide, by decide⟩ rfl (kR15 hS202.1 ta0) (Nat.le_of_ble_eq_true rfl) rfl rfl (by decide) (by decide) (k_X12_eatsWord hS202.1 ta0 (by decide)) ?_
        rintro v527 cn' K' N' I523 R524 L525 ⟨rfl, rfl, rfl, rfl, g526, h528, w529, -⟩
        have hS530 := hS202.tr g526 (by decide +kernel) (by decide +kernel)
        have c531 : I523 a1 3 = v41 := (g526.cell ta1 (by decide +kernel)).trans c203
        have c532 : I523 a0 13 = v519 := (g526.cell ta0 (by decide +kernel)).trans c520
        have c533 : I523 a0 14 = v521 := (g526.cell ta0 (by decide +kernel)).trans c522
        have hO534 : FrO 14 a1 T I0 I523 := hO204.st g526 (by decide +kernel)
        have ov535 := w529.over (by rw [c517]; exact om_394b70a2 p229)
        obtain ⟨v536, c537⟩ : ∃ v, I523 a0 9 = v := ⟨_, rfl⟩
        have b538 := iv15_9 hS530.1 ta0 c537
        obtain ⟨v539, c540⟩ : ∃ v, I523 a0 13 = v := ⟨_, rfl⟩
        obtain ⟨v541, c542⟩ : ∃ v, I523 a0 14 = v := ⟨_, rfl⟩
        (try rw [c537] at ov535)
        (try rw [c540] at ov535)
        (try rw [c542] at ov535)
        (try rw [c517] at ov535)
        (try rw [c520] at ov535)
        (try rw [c522] at ov535)
        refine tr_istore dX12_readCheese_42 (by decide) (by decide) ?_
        refine tr_aload_n dX12_readCheese_44 rfl ?_
        refine q_getI dX12_readCheese_45 fl12_99 (kR15 hS530.1 ta0) c537 ?_
        refine q_iconst dX12_readCheese_48 (by decide) ?_
        intro v543 h544
        refine q_icmp_ne 53 dX12_readCheese_49 (by decide) (fun h545 => ?_) (fun h545 => ?_)
        · skip
          exfalso; exact om_1fa3e129 ov535.1 h544 h545
        · skip
          have eF := hF.eq
          have eP := hP.eq
          obtain ⟨v546, c547⟩ : ∃ v, I523 a0 10 = v := ⟨_, rfl⟩
          have b548 := iv15_10 hS530.1 ta0 c547
          obtain ⟨v549, c550⟩ : ∃ v, I523 a0 11 = v := ⟨_, rfl⟩
          obtain ⟨y551, c552⟩ : ∃ v, L525 a0 15 = v := ⟨_, rfl⟩
          obtain ⟨v553, c554⟩ : ∃ v, I523 a0 12 = v := ⟨_, rfl⟩
          obtain ⟨v555, c556⟩ : ∃ v, I523 a0 8 = v := ⟨_, rfl⟩
          have b557 := iv15_8 hS530.1 ta0 c556
          exact tr_vret hZ dX12_readCheese_52 rfl (by decide) (by decide) ⟨rfl, rfl, rfl, rfl, rfl, hS530, (fun b hb => (Option.some.inj (d2.symm.trans hb)) ▸ (((((FrM.rf (R := R0) (b := a1) (T := T)).st g75 (by decide +kernel)).st g138 (by decide +kernel)).st g197 (by decide +kernel)).st g526 (by decide +kernel))), (fun dr hd => (Option.some.inj (d2.symm.trans hd)) ▸ hO534), (Or.inr (⟨(by (try rw [w125]); first | done | with_reducible assumption | exact om_7fac24c5 eF), (by (try rw [w125]); (try rw [c537]); first | done | with_reducible assumption | exact om_394b70a2 ov535.1), (by (try rw [w125]); (try rw [c540]); first | done | with_reducible assumption | exact om_9adad658 p230 ov535.2.1 eF), (by (try rw [w125]); (try rw [c542]); first | done | with_reducible assumption | exact om_3998a42e p231 ov535.2.2 eP), trivial⟩)), trivial⟩
      · skip
        obtain ⟨v558, c559⟩ : ∃ v, I194 a0 9 = v := ⟨_, rfl⟩
        have b560 := iv15_9 hS202.1 ta0 c559
        rw [c559] at p237
        obtain ⟨v561, c562⟩ : ∃ v, I194 a0 13 = v := ⟨_, rfl⟩
        rw [c562] at p238
        obtain ⟨v563, c564⟩ : ∃ v, I194 a0 14 = v := ⟨_, rfl⟩
        rw [c564] at p239
        replace hF := hF.neg (by exact om_28513e2f p233 p234)
        replace hP := hP.neg (by exact om_28513e2f p233 p234)
        replace hF := hF.neg (by exact om_10ed11b5 p235)
        replace hP := hP.neg (by exact om_10ed11b5 p235)
        replace hF := hF.pos (by exact om_41eb13e5 p36 w127 h189 h191 h193 p236)
        replace hP := hP.pos (by exact om_41eb13e5 p36 w127 h189 h191 h193 p236)
        refine tr_istore_n dX12_readCheese_35 (by decide) (by decide) ?_
        refine tr_aload_n dX12_readCheese_36 rfl ?_
        refine tr_ldcS dX12_readCheese_37 ld12_186 ?_
        refine q_callVi hE (M' := mX12_eatsWord) (as := [_]) dX12_readCheese_39 lk12_290 inX12_eatsWord seX12_eatsWord myX12_eatsWord (by decide) ⟨by decide, by decide⟩ rfl (kR15 hS202.1 ta0) (Nat.le_of_ble_eq_true rfl) rfl rfl (by decide) (by decide) (k_X12_eatsWord hS202.1 ta0 (by decide)) ?_
        rintro v569 cn' K' N' I565 R566 L567 ⟨rfl, rfl, rfl, rfl, g568, h570, w571, -⟩
        have hS572 := hS202.tr g568 (by decide +kernel) (by decide +kernel)
        have c573 : I565 a1 3 = v41 := (g568.cell ta1 (by decide +kernel)).trans c203
        have c574 : I565 a0 13 = v561 := (g568.cell ta0 (by decide +kernel)).trans c562
        have c575 : I565 a0 14 = v563 := (g568.cell ta0 (by decide +kernel)).trans c564
        have hO576 : FrO 14 a1 T I0 I565 := hO204.st g568 (by decide +kernel)
        have ov577 := w571.over (by rw [c559]; exact om_394b70a2 p237)
        obtain ⟨v578, c579⟩ : ∃ v, I565 a0 9 = v := ⟨_, rfl⟩
        have b580 := iv15_9 hS572.1 ta0 c579
        obtain ⟨v581, c582⟩ : ∃ v, I565 a0 13 = v := ⟨_, rfl⟩
        obtain ⟨v583, c584⟩ : ∃ v, I565 a0 14 = v := ⟨_, rfl⟩
        (try rw [c579] at ov577)
        (try rw [c582] at ov577)
        (try rw [c584] at ov577)
        (try rw [c559] at ov577)
        (try rw [c562] at ov577)
        (try rw [c564] at ov577)
        refine tr_istore dX12_readCheese_42 (by decide) (by decide) ?_
        refine tr_aload_n dX12_readCheese_44 rfl ?_
        refine q_getI dX12_readCheese_45 fl12_99 (kR15 hS572.1 ta0) c579 ?_
        refine q_iconst dX12_readCheese_48 (by decide) ?_
        intro v585 h586
        refine q_icmp_ne 53 dX12_readCheese_49 (by decide) (fun h587 => ?_) (fun h587 => ?_)
        · skip
          exfalso; exact om_1fa3e129 ov577.1 h586 h587
        · skip
          have eF := hF.eq
          have eP := hP.eq
          obtain ⟨v588, c589⟩ : ∃ v, I565 a0 10 = v := ⟨_, rfl⟩
          have b590 := iv15_10 hS572.1 ta0 c589
          obtain ⟨v591, c592⟩ : ∃ v, I565 a0 11 = v := ⟨_, rfl⟩
          obtain ⟨y593, c594⟩ : ∃ v, L567 a0 15 = v := ⟨_, rfl⟩
          obtain ⟨v595, c596⟩ : ∃ v, I565 a0 12 = v := ⟨_, rfl⟩
          obtain ⟨v597, c598⟩ : ∃ v, I565 a0 8 = v := ⟨_, rfl⟩
          have b599 := iv15_8 hS572.1 ta0 c598
          exact tr_vret hZ dX12_readCheese_52 rfl (by decide) (by decide) ⟨rfl, rfl, rfl, rfl, rfl, hS572, (fun b hb => (Option.some.inj (d2.symm.trans hb)) ▸ (((((FrM.rf (R := R0) (b := a1) (T := T)).st g75 (by decide +kernel)).st g138 (by decide +kernel)).st g197 (by decide +kernel)).st g568 (by decide +kernel))), (fun dr hd => (Option.some.inj (d2.symm.trans hd)) ▸ hO576), (Or.inr (⟨(by (try rw [w125]); first | done | with_reducible assumption | exact om_7b84bd42 eF), (by (try rw [w125]); (try rw [c579]); first | done | with_reducible assumption | exact om_394b70a2 ov577.1), (by (try rw [w125]); (try rw [c582]); first | done | with_reducible assumption | exact om_4510ffdb p238 ov577.2.1 eF), (by (try rw [w125]); (try rw [c584]); first | done | with_reducible assumption | exact om_3998a42e p239 ov577.2.2 eP), trivial⟩)), trivial⟩
    · skip
      obtain ⟨v600, c601⟩ : ∃ v, I135 a0 9 = v := ⟨_, rfl⟩
      have b602 := iv15_9 hS143.1 ta0 c601
      rw [c601] at p161
      obtain ⟨v603, c604⟩ : ∃ v, I135 a0 13 = v := ⟨_, rfl⟩
      rw [c604] at p162
      obtain ⟨v605, c606⟩ : ∃ v, I135 a0 14 = v := ⟨_, rfl⟩
      rw [c606] at p163
      replace hF := hF.pos (by exact om_ea380f8a p160)
      replace hP := hP.pos (by exact om_ea380f8a p160)
      refine tr_lstore_n dX12_readCheese_17 (by decide) (by decide) (by decide) ?_
      refine tr_aload_n dX12_readCheese_18 rfl ?_
      refine tr_ldcwS dX12_readCheese_19 ld12_289 ?_
      refine q_iconst dX12_readCheese_22 (by decide) ?_
      intro v607 h608
      refine tr_aload_n dX12_readCheese_23 rfl ?_
      refine tr_getR dX12_readCheese_24 fl12_188 (kR15 hS143.1 ta0) d2 ?_
      refine q_getI dX12_readCheese_27 fl12_263 (kR14 hS143.1 ta1) ((hS143.cell ta1 (by decide +kernel)).trans c34) ?_
      refine q_iconst dX12_readCheese_30 (by decide) ?_
      intro v609 h610
      refine q_isubE dX12_readCheese_31 (by intro j1 j2 j3 j4; exact om_99c1ed93 b35.2 b35.1 p36 w127 h610) ?_
      intro v611 h612
      refine q_callVi hE (M' := mX12_readPart) (as := [_, _, _]) dX12_readCheese_32 lk12_249 inX12_readPart seX12_readPart myX12_readPart (by decide) ⟨by decide, by decide⟩ rfl (kR15 hS143.1 ta0) (Nat.le_of_ble_eq_true rfl) rfl rfl (by decide) (by decide) (k_X12_readPart hS143.1 ta0 (by decide)) ?_
      rintro v617 cn' K' N' I613 R614 L615 ⟨rfl, rfl, rfl, rfl, g616, p618, w619, -⟩
      have hS620 := hS143.tr g616 (by decide +kernel) (by decide +kernel)
      have c621 : I613 a1 3 = v41 := (g616.cell ta1 (by decide +kernel)).trans c144
      have b622 : 0 ≤ v617.toInt ∧ v617.toInt ≤ 3 := by exact om_5e7331f8 b35.2 b35.1 p36 w127 h608 h610 h612 p618
      clear p618
      have hO623 : FrO 14 a1 T I0 I613 := hO145.st g616 (by decide +kernel)
      have ov624 := w619.over (by rw [c601]; exact om_394b70a2 p161)
      obtain ⟨v625, c626⟩ : ∃ v, I613 a0 9 = v := ⟨_, rfl⟩
      have b627 := iv15_9 hS620.1 ta0 c626
      obtain ⟨v628, c629⟩ : ∃ v, I613 a0 13 = v := ⟨_, rfl⟩
      obtain ⟨v630, c631⟩ : ∃ v, I613 a0 14 = v := ⟨_, rfl⟩
      (try rw [c626] at ov624)
      (try rw [c629] at ov624)
      (try rw [c631] at ov624)
      (try rw [c601] at ov624)
      (try rw [c604] at ov624)
      (try rw [c606] at ov624)
      refine tr_istore_n dX12_readCheese_35 (by decide) (by decide) ?_
      refine tr_aload_n dX12_readCheese_36 rfl ?_
      refine tr_ldcS dX12_readCheese_37 ld12_186 ?_
      refine q_callVi hE (M' := mX12_eatsWord) (as := [_]) dX12_readCheese_39 lk12_290 inX12_eatsWord seX12_eatsWord myX12_eatsWord (by decide) ⟨by decide, by decide⟩ rfl (kR15 hS620.1 ta0) (Nat.le_of_ble_eq_true rfl) rfl rfl (by decide) (by decide) (k_X12_eatsWord hS620.1 ta0 (by decide)) ?_
      rintro v636 cn' K' N' I632 R633 L634 ⟨rfl, rfl, rfl, rfl, g635, h637, w638, -⟩
      have hS639 := hS620.tr g635 (by decide +kernel) (by decide +kernel)
      have c640 : I632 a1 3 = v41 := (g635.cell ta1 (by decide +kernel)).trans c621
      have c641 : I632 a0 13 = v628 := (g635.cell ta0 (by decide +kernel)).trans c629
      have c642 : I632 a0 14 = v630 := (g635.cell ta0 (by decide +kernel)).trans c631
      have hO643 : FrO 14 a1 T I0 I632 := hO623.st g635 (by decide +kernel)
      have ov644 := w638.over (by rw [c626]; exact om_394b70a2 ov624.1)
      obtain ⟨v645, c646⟩ : ∃ v, I632 a0 9 = v := ⟨_, rfl⟩
      have b647 := iv15_9 hS639.1 ta0 c646
      obtain ⟨v648, c649⟩ : ∃ v, I632 a0 13 = v := ⟨_, rfl⟩
      obtain ⟨v650, c651⟩ : ∃ v, I632 a0 14 = v := ⟨_, rfl⟩
      (try rw [c646] at ov644)
      (try rw [c649] at ov644)
      (try rw [c651] at ov644)
      (try rw [c626] at ov644)
      (try rw [c629] at ov644)
      (try rw [c631] at ov644)
      refine tr_istore dX12_readCheese_42 (by decide) (by decide) ?_
      refine tr_aload_n dX12_readCheese_44 rfl ?_
      refine q_getI dX12_readCheese_45 fl12_99 (kR15 hS639.1 ta0) c646 ?_
      refine q_iconst dX12_readCheese_48 (by decide) ?_
      intro v652 h653
      refine q_icmp_ne 53 dX12_readCheese_49 (by decide) (fun h654 => ?_) (fun h654 => ?_)
      · skip
        exfalso; exact om_1fa3e129 ov644.1 h653 h654
      · skip
        have eF := hF.eq
        have eP := hP.eq
        obtain ⟨v655, c656⟩ : ∃ v, I632 a0 10 = v := ⟨_, rfl⟩
        have b657 := iv15_10 hS639.1 ta0 c656
        obtain ⟨v658, c659⟩ : ∃ v, I632 a0 11 = v := ⟨_, rfl⟩
        obtain ⟨y660, c661⟩ : ∃ v, L634 a0 15 = v := ⟨_, rfl⟩
        obtain ⟨v662, c663⟩ : ∃ v, I632 a0 12 = v := ⟨_, rfl⟩
        obtain ⟨v664, c665⟩ : ∃ v, I632 a0 8 = v := ⟨_, rfl⟩
        have b666 := iv15_8 hS639.1 ta0 c665
        exact tr_vret hZ dX12_readCheese_52 rfl (by decide) (by decide) ⟨rfl, rfl, rfl, rfl, rfl, hS639, (fun b hb => (Option.some.inj (d2.symm.trans hb)) ▸ (((((FrM.rf (R := R0) (b := a1) (T := T)).st g75 (by decide +kernel)).st g138 (by decide +kernel)).st g616 (by decide +kernel)).st g635 (by decide +kernel))), (fun dr hd => (Option.some.inj (d2.symm.trans hd)) ▸ hO643), (Or.inr (⟨(by (try rw [w125]); first | done | with_reducible assumption | exact om_7fac24c5 eF), (by (try rw [w125]); (try rw [c646]); first | done | with_reducible assumption | exact om_394b70a2 ov644.1), (by (try rw [w125]); (try rw [c649]); first | done | with_reducible assumption | exact om_93aef1c0 p162 ov624.2.1 ov644.2.1 eF), (by (try rw [w125]); (try rw [c651]); first | done | with_reducible assumption | exact om_3efc13ef p163 ov624.2.2 ov644.2.2 eP), trivial⟩)), trivial⟩
    · skip
      obtain ⟨v667, c668⟩ : ∃ v, I135 a0 9 = v := ⟨_, rfl⟩
      have b669 := iv15_9 hS143.1 ta0 c668
      rw [c668] at p166
      obtain ⟨v670, c671⟩ : ∃ v, I135 a0 13 = v := ⟨_, rfl⟩
      rw [c671] at p167
      obtain ⟨v672, c673⟩ : ∃ v, I135 a0 14 = v := ⟨_, rfl⟩
      rw [c673] at p168
      replace hF := hF.neg (by exact om_e4d065d5 p164)
      replace hP := hP.neg (by exact om_e4d065d5 p164)
      replace hF := hF.pos (by exact om_1b2eae89 p165)
      replace hP := hP.pos (by exact om_1b2eae89 p165)
      refine tr_lstore_n dX12_readCheese_17 (by decide) (by decide) (by decide) ?_
      refine tr_aload_n dX12_readCheese_18 rfl ?_
      refine tr_ldcwS dX12_readCheese_19 ld12_289 ?_
      refine q_iconst dX12_readCheese_22 (by decide) ?_
      intro v674 h675
      refine tr_aload_n dX12_readCheese_23 rfl ?_
      refine tr_getR dX12_readCheese_24 fl12_188 (kR15 hS143.1 ta0) d2 ?_
      refine q_getI dX12_readCheese_27 fl12_263 (kR14 hS143.1 ta1) ((hS143.cell ta1 (by decide +kernel)).trans c34) ?_
      refine q_iconst dX12_readCheese_30 (by decide) ?_
      intro v676 h677
      refine q_isubE dX12_readCheese_31 (by intro j1 j2 j3 j4; exact om_99c1ed93 b35.2 b35.1 p36 w127 h677) ?_
      intro v678 h679
      refine q_callVi hE (M' := mX12_readPart) (as := [_, _, _]) dX12_readCheese_32 lk12_249 inX12_readPart seX12_readPart myX12_readPart (by decide) ⟨by decide, by decide⟩ rfl (kR15 hS143.1 ta0) (Nat.le_of_ble_eq_true rfl) rfl rfl (by decide) (by decide) (k_X12_readPart hS143.1 ta0 (by decide)) ?_
      rintro v684 cn' K' N' I680 R681 L682 ⟨rfl, rfl, rfl, rfl, g683, p685, w686, -⟩
      have hS687 := hS143.tr g683 (by decide +kernel) (by decide +kernel)
      have c688 : I680 a1 3 = v41 := (g683.cell ta1 (by decide +kernel)).trans c144
      have b689 : 0 ≤ v684.toInt ∧ v684.toInt ≤ 3 := by exact om_5e7331f8 b35.2 b35.1 p36 w127 h675 h677 h679 p685
      clear p685
      have hO690 : FrO 14 a1 T I0 I680 := hO145.st g683 (by decide +kernel)
      have ov691 := w686.over (by rw [c668]; exact om_394b70a2 p166)
      obtain ⟨v692, c693⟩ : ∃ v, I680 a0 9 = v := ⟨_, rfl⟩
      have b694 := iv15_9 hS687.1 ta0 c693
      obtain ⟨v695, c696⟩ : ∃ v, I680 a0 13 = v := ⟨_, rfl⟩
      obtain ⟨v697, c698⟩ : ∃ v, I680 a0 14 = v := ⟨_, rfl⟩
      (try rw [c693] at ov691)
      (try rw [c696] at ov691)
      (try rw [c698] at ov691)
      (try rw [c668] at ov691)
      (try rw [c671] at ov691)
      (try rw [c673] at ov691)
      refine tr_istore_n dX12_readCheese_35 (by decide) (by decide) ?_
      refine tr_aload_n dX12_readCheese_36 rfl ?_
      refine tr_ldcS dX12_readCheese_37 ld12_186 ?_
      refine q_callVi hE (M' := mX12_eatsWord) (as := [_]) dX12_readCheese_39 lk12_290 inX12_eatsWord seX12_eatsWord myX12_eatsWord (by decide) ⟨by decide, by decide⟩ rfl (kR15 hS687.1 ta0) (Nat.le_of_ble_eq_true rfl) rfl rfl (by decide) (by decide) (k_X12_eatsWord hS687.1 ta0 (by decide)) ?_
      rintro v703 cn' K' N' I699 R700 L701 ⟨rfl, rfl, rfl, rfl, g702, h704, w705, -⟩
      have hS706 := hS687.tr g702 (by decide +kernel) (by decide +kernel)
      have c707 : I699 a1 3 = v41 := (g702.cell ta1 (by decide +kernel)).trans c688
      have c708 : I699 a0 13 = v695 := (g702.cell ta0 (by decide +kernel)).trans c696
      have c709 : I699 a0 14 = v697 := (g702.cell ta0 (by decide +kernel)).trans c698
      have hO710 : FrO 14 a1 T I0 I699 := hO690.st g702 (by decide +kernel)
      have ov711 := w705.over (by rw [c693]; exact om_394b70a2 ov691.1)
      obtain ⟨v712, c713⟩ : ∃ v, I699 a0 9 = v := ⟨_, rfl⟩
      have b714 := iv15_9 hS706.1 ta0 c713
      obtain ⟨v715, c716⟩ : ∃ v, I699 a0 13 = v := ⟨_, rfl⟩
      obtain ⟨v717, c718⟩ : ∃ v, I699 a0 14 = v := ⟨_, rfl⟩
      (try rw [c713] at ov711)
      (try rw [c716] at ov711)
      (try rw [c718] at ov711)
      (try rw [c693] at ov711)
      (try rw [c696] at ov711)
      (try rw [c698] at ov711)
      refine tr_istore dX12_readCheese_42 (by decide) (by decide) ?_
      refine tr_aload_n dX12_readCheese_44 rfl ?_
      refine q_getI dX12_readCheese_45 fl12_99 (kR15 hS706.1 ta0) c713 ?_
      refine q_iconst dX12_readCheese_48 (by decide) ?_
      intro v719 h720
      refine q_icmp_ne 53 dX12_readCheese_49 (by decide) (fun h721 => ?_) (fun h721 => ?_)
      · skip
        exfalso; exact om_1fa3e129 ov711.1 h720 h721
      · skip
        have eF := hF.eq
        have eP := hP.eq
        obtain ⟨v722, c723⟩ : ∃ v, I699 a0 10 = v := ⟨_, rfl⟩
        have b724 := iv15_10 hS706.1 ta0 c723
        obtain ⟨v725, c726⟩ : ∃ v, I699 a0 11 = v := ⟨_, rfl⟩
        obtain ⟨y727, c728⟩ : ∃ v, L701 a0 15 = v := ⟨_, rfl⟩
        obtain ⟨v729, c730⟩ : ∃ v, I699 a0 12 = v := ⟨_, rfl⟩
        obtain ⟨v731, c732⟩ : ∃ v, I699 a0 8 = v := ⟨_, rfl⟩
        have b733 := iv15_8 hS706.1 ta0 c732
        exact tr_vret hZ dX12_readCheese_52 rfl (by decide) (by decide) ⟨rfl, rfl, rfl, rfl, rfl, hS706, (fun b hb => (Option.some.inj (d2.symm.trans hb)) ▸ (((((FrM.rf (R := R0) (b := a1) (T := T)).st g75 (by decide +kernel)).st g138 (by decide +kernel)).st g683 (by decide +kernel)).st g702 (by decide +kernel))), (fun dr hd => (Option.some.inj (d2.symm.trans hd)) ▸ hO710), (Or.inr (⟨(by (try rw [w125]); first | done | with_reducible assumption | exact om_c731b21c eF), (by (try rw [w125]); (try rw [c713]); first | done | with_reducible assumption | exact om_394b70a2 ov711.1), (by (try rw [w125]); (try rw [c716]); first | done | with_reducible assumption | exact om_7262b70c p167 ov691.2.1 ov711.2.1 eF), (by (try rw [w125]); (try rw [c718]); first | done | with_reducible assumption | exact om_3efc13ef p168 ov691.2.2 ov711.2.2 eP), trivial⟩)), trivial⟩
  · skip
    obtain ⟨v734, c735⟩ : ∃ v, I72 a0 9 = v := ⟨_, rfl⟩
    have b736 := iv15_9 hS80.1 ta0 c735
    rw [c735] at p95
    obtain ⟨v737, c738⟩ : ∃ v, I72 a0 13 = v := ⟨_, rfl⟩
    rw [c738] at p96
    obtain ⟨v739, c740⟩ : ∃ v, I72 a0 14 = v := ⟨_, rfl⟩
    rw [c740] at p97
    have p741 := p61
    unfold Q7M at p741
    replace hF := hF.pos (by exact om_84500d53 pre18 p44 h71 p94)
    replace hP := hP.pos (by exact om_84500d53 pre18 p44 h71 p94)
    clear p741
    refine tr_aload_n dX12_readCheese_13 rfl ?_
    refine q_callVl hE (M' := mX12_readFresh) (as := []) dX12_readCheese_14 lk12_285 inX12_readFresh seX12_readFresh myX12_readFresh (by decide) ⟨by decide, by decide⟩ rfl (kR15 hS80.1 ta0) (Nat.le_of_ble_eq_true rfl) rfl rfl (by decide) (by decide) (k_X12_readFresh hS80.1 ta0 ⟨_, d2⟩) ?_
    rintro y746 cn' K' N' I742 R743 L744 ⟨rfl, rfl, rfl, rfl, g745, w747, -⟩
    have hS748 := hS80.tr g745 (by decide +kernel) (by decide +kernel)
    have c749 : I742 a1 3 = v41 := (g745.cell ta1 (by decide +kernel)).trans c81
    have hO750 : FrO 14 a1 T I0 I742 := hO82.st g745 (by decide +kernel)
    have ov751 := w747.over (by rw [c735]; exact om_394b70a2 p95)
    obtain ⟨v752, c753⟩ : ∃ v, I742 a0 9 = v := ⟨_, rfl⟩
    have b754 := iv15_9 hS748.1 ta0 c753
    obtain ⟨v755, c756⟩ : ∃ v, I742 a0 13 = v := ⟨_, rfl⟩
    obtain ⟨v757, c758⟩ : ∃ v, I742 a0 14 = v := ⟨_, rfl⟩
    (try rw [c753] at ov751)
    (try rw [c756] at ov751)
    (try rw [c758] at ov751)
    (try rw [c735] at ov751)
    (try rw [c738] at ov751)
    (try rw [c740] at ov751)
    refine tr_lstore_n dX12_readCheese_17 (by decide) (by decide) (by decide) ?_
    refine tr_aload_n dX12_readCheese_18 rfl ?_
    refine tr_ldcwS dX12_readCheese_19 ld12_289 ?_
    refine q_iconst dX12_readCheese_22 (by decide) ?_
    intro v759 h760
    refine tr_aload_n dX12_readCheese_23 rfl ?_
    refine tr_getR dX12_readCheese_24 fl12_188 (kR15 hS748.1 ta0) d2 ?_
    refine q_getI dX12_readCheese_27 fl12_263 (kR14 hS748.1 ta1) ((hS748.cell ta1 (by decide +kernel)).trans c34) ?_
    refine q_iconst dX12_readCheese_30 (by decide) ?_
    intro v761 h762
    refine q_isubE dX12_readCheese_31 (by intro j1 j2 j3 j4; exact om_1b9d7214 b35.2 b35.1 p36 h762) ?_
    intro v763 h764
    refine q_callVi hE (M' := mX12_readPart) (as := [_, _, _]) dX12_readCheese_32 lk12_249 inX12_readPart seX12_readPart myX12_readPart (by decide) ⟨by decide, by decide⟩ rfl (kR15 hS748.1 ta0) (Nat.le_of_ble_eq_true rfl) rfl rfl (by decide) (by decide) (k_X12_readPart hS748.1 ta0 (by decide)) ?_
    rintro v769 cn' K' N' I765 R766 L767 ⟨rfl, rfl, rfl, rfl, g768, p770, w771, -⟩
    have hS772 := hS748.tr g768 (by decide +kernel) (by decide +kernel)
    have c773 : I765 a1 3 = v41 := (g768.cell ta1 (by decide +kernel)).trans c749
    have b774 : 0 ≤ v769.toInt ∧ v769.toInt ≤ 3 := by exact om_6482dea5 b35.2 b35.1 p36 h760 h762 h764 p770
    clear p770
    have hO775 : FrO 14 a1 T I0 I765 := hO750.st g768 (by decide +kernel)
    have ov776 := w771.over (by rw [c753]; exact om_394b70a2 ov751.1)
    obtain ⟨v777, c778⟩ : ∃ v, I765 a0 9 = v := ⟨_, rfl⟩
    have b779 := iv15_9 hS772.1 ta0 c778
    obtain ⟨v780, c781⟩ : ∃ v, I765 a0 13 = v := ⟨_, rfl⟩
    obtain ⟨v782, c783⟩ : ∃ v, I765 a0 14 = v := ⟨_, rfl⟩
    (try rw [c778] at ov776)
    (try rw [c781] at ov776)
    (try rw [c783] at ov776)
    (try rw [c753] at ov776)
    (try rw [c756] at ov776)
    (try rw [c758] at ov776)
    refine tr_istore_n dX12_readCheese_35 (by decide) (by decide) ?_
    refine tr_aload_n dX12_readCheese_36 rfl ?_
    refine tr_ldcS dX12_readCheese_37 ld12_186 ?_
    refine q_callVi hE (M' := mX12_eatsWord) (as := [_]) dX12_readCheese_39 lk12_290 inX12_eatsWord seX12_eatsWord myX12_eatsWord (by decide) ⟨by decide, by decide⟩ rfl (kR15 hS772.1 ta0) (Nat.le_of_ble_eq_true rfl) rfl rfl (by decide) (by decide) (k_X12_eatsWord hS772.1 ta0 (by decide)) ?_
    rintro v788 cn' K' N' I784 R785 L786 ⟨rfl, rfl, rfl, rfl, g787, h789, w790, -⟩
    have hS791 := hS772.tr g787 (by decide +kernel) (by decide +kernel)
    have c792 : I784 a1 3 = v41 := (g787.cell ta1 (by decide +kernel)).trans c773
    have c793 : I784 a0 13 = v780 := (g787.cell ta0 (by decide +kernel)).trans c781
    have c794 : I784 a0 14 = v782 := (g787.cell ta0 (by decide +kernel)).trans c783
    have hO795 : FrO 14 a1 T I0 I784 := hO775.st g787 (by decide +kernel)
    have ov796 := w790.over (by rw [c778]; exact om_394b70a2 ov776.1)
    obtain ⟨v797, c798⟩ : ∃ v, I784 a0 9 = v := ⟨_, rfl⟩
    have b799 := iv15_9 hS791.1 ta0 c798
    obtain ⟨v800, c801⟩ : ∃ v, I784 a0 13 = v := ⟨_, rfl⟩
    obtain ⟨v802, c803⟩ : ∃ v, I784 a0 14 = v := ⟨_, rfl⟩
    (try rw [c798] at ov796)
    (try rw [c801] at ov796)
    (try rw [c803] at ov796)
    (try rw [c778] at ov796)
    (try rw [c781] at ov796)
    (try rw [c783] at ov796)
    refine tr_istore dX12_readCheese_42 (by decide) (by decide) ?_
    refine tr_aload_n dX12_readCheese_44 rfl ?_
    refine q_getI dX12_readCheese_45 fl12_99 (kR15 hS791.1 ta0) c798 ?_
    refine q_iconst dX12_readCheese_48 (by decide) ?_
    intro v804 h805
    refine q_icmp_ne 53 dX12_readCheese_49 (by decide) (fun h806 => ?_) (fun h806 => ?_)
    · skip
      exfalso; exact om_1fa3e129 ov796.1 h805 h806
    · skip
      have eF := hF.eq
      have eP := hP.eq
      obtain ⟨v807, c808⟩ : ∃ v, I784 a0 10 = v := ⟨_, rfl⟩
      have b809 := iv15_10 hS791.1 ta0 c808
      obtain ⟨v810, c811⟩ : ∃ v, I784 a0 11 = v := ⟨_, rfl⟩
      obtain ⟨y812, c813⟩ : ∃ v, L786 a0 15 = v := ⟨_, rfl⟩
      obtain ⟨v814, c815⟩ : ∃ v, I784 a0 12 = v := ⟨_, rfl⟩
      obtain ⟨v816, c817⟩ : ∃ v, I784 a0 8 = v := ⟨_, rfl⟩
      have b818 := iv15_8 hS791.1 ta0 c817
      exact tr_vret hZ dX12_readCheese_52 rfl (by decide) (by decide) ⟨rfl, rfl, rfl, rfl, rfl, hS791, (fun b hb => (Option.some.inj (d2.symm.trans hb)) ▸ (((((FrM.rf (R := R0) (b := a1) (T := T)).st g75 (by decide +kernel)).st g745 (by decide +kernel)).st g768 (by decide +kernel)).st g787 (by decide +kernel))), (fun dr hd => (Option.some.inj (d2.symm.trans hd)) ▸ hO795), (Or.inr (⟨(by first | done | with_reducible assumption | exact om_64c62efe eF), (by (try rw [c798]); first | done | with_reducible assumption | exact om_394b70a2 ov796.1), (by (try rw [c801]); first | done | with_reducible assumption | exact om_7cfe2b67 p96 ov751.2.1 ov776.2.1 ov796.2.1 eF), (by (try rw [c803]); first | done | with_reducible assumption | exact om_da179cc4 p11 p97 ov751.2.2 ov776.2.2 ov796.2.2 eP), trivial⟩)), trivial⟩
  · skip
    obtain ⟨v819, c820⟩ : ∃ v, I72 a0 9 = v := ⟨_, rfl⟩
    have b821 := iv15_9 hS80.1 ta0 c820
    rw [c820] at p100
    obtain ⟨v822, c823⟩ : ∃ v, I72 a0 13 = v := ⟨_, rfl⟩
    rw [c823] at p101
    obtain ⟨v824, c825⟩ : ∃ v, I72 a0 14 = v := ⟨_, rfl⟩
    rw [c825] at p102
    have p826 := p61
    unfold Q7M at p826
    replace hF := hF.neg (by exact om_e5c614a3 pre18 b43.2 b43.1 p44 h71 p98 p99 p826)
    replace hP := hP.neg (by exact om_e5c614a3 pre18 b43.2 b43.1 p44 h71 p98 p99 p826)
    replace hF := hF.pos (by exact om_ed099d78 pre18 p99 p826)
    replace hP := hP.pos (by exact om_ed099d78 pre18 p99 p826)
    clear p826
    refine tr_aload_n dX12_readCheese_13 rfl ?_
    refine q_callVl hE (M' := mX12_readFresh) (as := []) dX12_readCheese_14 lk12_285 inX12_readFresh seX12_readFresh myX12_readFresh (by decide) ⟨by decide, by decide⟩ rfl (kR15 hS80.1 ta0) (Nat.le_of_ble_eq_true rfl) rfl rfl (by decide) (by decide) (k_X12_readFresh hS80.1 ta0 ⟨_, d2⟩) ?_
    rintro y831 cn' K' N' I827 R828 L829 ⟨rfl, rfl, rfl, rfl, g830, w832, -⟩
    have hS833 := hS80.tr g830 (by decide +kernel) (by decide +kernel)
    have c834 : I827 a1 3 = v41 := (g830.cell ta1 (by decide +kernel)).trans c81
    have hO835 : FrO 14 a1 T I0 I827 := hO82.st g830 (by decide +kernel)
    have ov836 := w832.over (by rw [c820]; exact om_394b70a2 p100)
    obtain ⟨v837, c838⟩ : ∃ v, I827 a0 9 = v := ⟨_, rfl⟩
    have b839 := iv15_9 hS833.1 ta0 c838
    obtain ⟨v840, c841⟩ : ∃ v, I827 a0 13 = v := ⟨_, rfl⟩
    obtain ⟨v842, c843⟩ : ∃ v, I827 a0 14 = v := ⟨_, rfl⟩
    (try rw [c838] at ov836)
    (try rw [c841] at ov836)
    (try rw [c843] at ov836)
    (try rw [c820] at ov836)
    (try rw [c823] at ov836)
    (try rw [c825] at ov836)
    refine tr_lstore_n dX12_readCheese_17 (by decide) (by decide) (by decide) ?_
    refine tr_aload_n dX12_readCheese_18 rfl ?_
    refine tr_ldcwS dX12_readCheese_19 ld12_289 ?_
    refine q_iconst dX12_readCheese_22 (by decide) ?_
    intro v844 h845
    refine tr_aload_n dX12_readCheese_23 rfl ?_
    refine tr_getR dX12_readCheese_24 fl12_188 (kR15 hS833.1 ta0) d2 ?_
    refine q_getI dX12_readCheese_27 fl12_263 (kR14 hS833.1 ta1) ((hS833.cell ta1 (by decide +kernel)).trans c34) ?_
    refine q_iconst dX12_readCheese_30 (by decide) ?_
    intro v846 h847
    refine q_isubE dX12_readCheese_31 (by intro j1 j2 j3 j4; exact om_1b9d7214 b35.2 b35.1 p36 h847) ?_
    intro v848 h849
    refine q_callVi hE (M' := mX12_readPart) (as := [_, _, _]) dX12_readCheese_32 lk12_249 inX12_readPart seX12_readPart myX12_readPart (by decide) ⟨by decide, by decide⟩ rfl (kR15 hS833.1 ta0) (Nat.le_of_ble_eq_true rfl) rfl rfl (by decide) (by decide) (k_X12_readPart hS833.1 ta0 (by decide)) ?_
    rintro v854 cn' K' N' I850 R851 L852 ⟨rfl, rfl, rfl, rfl, g853, p855, w856, -⟩
    have hS857 := hS833.tr g853 (by decide +kernel) (by decide +kernel)
    have c858 : I850 a1 3 = v41 := (g853.cell ta1 (by decide +kernel)).trans c834
    have b859 : 0 ≤ v854.toInt ∧ v854.toInt ≤ 3 := by exact om_6482dea5 b35.2 b35.1 p36 h845 h847 h849 p855
    clear p855
    have hO860 : FrO 14 a1 T I0 I850 := hO835.st g853 (by decide +kernel)
    have ov861 := w856.over (by rw [c838]; exact om_394b70a2 ov836.1)
    obtain ⟨v862, c863⟩ : ∃ v, I850 a0 9 = v := ⟨_, rfl⟩
    have b864 := iv15_9 hS857.1 ta0 c863
    obtain ⟨v865, c866⟩ : ∃ v, I850 a0 13 = v := ⟨_, rfl⟩
    obtain ⟨v867, c868⟩ : ∃ v, I850 a0 14 = v := ⟨_, rfl⟩
    (try rw [c863] at ov861)
    (try rw [c866] at ov861)
    (try rw [c868] at ov861)
    (try rw [c838] at ov861)
    (try rw [c841] at ov861)
    (try rw [c843] at ov861)
    refine tr_istore_n dX12_readCheese_35 (by decide) (by decide) ?_
    refine tr_aload_n dX12_readCheese_36 rfl ?_
    refine tr_ldcS dX12_readCheese_37 ld12_186 ?_
    refine q_callVi hE (M' := mX12_eatsWord) (as := [_]) dX12_readCheese_39 lk12_290 inX12_eatsWord seX12_eatsWord myX12_eatsWord (by decide) ⟨by decide, by decide⟩ rfl (kR15 hS857.1 ta0) (Nat.le_of_ble_eq_true rfl) rfl rfl (by decide) (by decide) (k_X12_eatsWord hS857.1 ta0 (by decide)) ?_
    rintro v873 cn' K' N' I869 R870 L871 ⟨rfl, rfl, rfl, rfl, g872, h874, w875, -⟩
    have hS876 := hS857.tr g872 (by decide +kernel) (by decide +kernel)
    have c877 : I869 a1 3 = v41 := (g872.cell ta1 (by decide +kernel)).trans c858
    have c878 : I869 a0 13 = v865 := (g872.cell ta0 (by decide +kernel)).trans c866
    have c879 : I869 a0 14 = v867 := (g872.cell ta0 (by decide +kernel)).trans c868
    have hO880 : FrO 14 a1 T I0 I869 := hO860.st g872 (by decide +kernel)
    have ov881 := w875.over (by rw [c863]; exact om_394b70a2 ov861.1)
    obtain ⟨v882, c883⟩ : ∃ v, I869 a0 9 = v := ⟨_, rfl⟩
    have b884 := iv15_9 hS876.1 ta0 c883
    obtain ⟨v885, c886⟩ : ∃ v, I869 a0 13 = v := ⟨_, rfl⟩
    obtain ⟨v887, c888⟩ : ∃ v, I869 a0 14 = v := ⟨_, rfl⟩
    (try rw [c883] at ov881)
    (try rw [c886] at ov881)
    (try rw [c888] at ov881)
    (try rw [c863] at ov881)
    (try rw [c866] at ov881)
    (try rw [c868] at ov881)
    refine tr_istore dX12_readCheese_42 (by decide) (by decide) ?_
    refine tr_aload_n dX12_readCheese_44 rfl ?_
    refine q_getI dX12_readCheese_45 fl12_99 (kR15 hS876.1 ta0) c883 ?_
    refine q_iconst dX12_readCheese_48 (by decide) ?_
    intro v889 h890
    refine q_icmp_ne 53 dX12_readCheese_49 (by decide) (fun h891 => ?_) (fun h891 => ?_)
    · skip
      exfalso; exact om_1fa3e129 ov881.1 h890 h891
    · skip
      have eF := hF.eq
      have eP := hP.eq
      obtain ⟨v892, c893⟩ : ∃ v, I869 a0 10 = v := ⟨_, rfl⟩
      have b894 := iv15_10 hS876.1 ta0 c893
      obtain ⟨v895, c896⟩ : ∃ v, I869 a0 11 = v := ⟨_, rfl⟩
      obtain ⟨y897, c898⟩ : ∃ v, L871 a0 15 = v := ⟨_, rfl⟩
      obtain ⟨v899, c900⟩ : ∃ v, I869 a0 12 = v := ⟨_, rfl⟩
      obtain ⟨v901, c902⟩ : ∃ v, I869 a0 8 = v := ⟨_, rfl⟩
      have b903 := iv15_8 hS876.1 ta0 c902
      exact tr_vret hZ dX12_readCheese_52 rfl (by decide) (by decide) ⟨rfl, rfl, rfl, rfl, rfl, hS876, (fun b hb => (Option.some.inj (d2.symm.trans hb)) ▸ (((((FrM.rf (R := R0) (b := a1) (T := T)).st g75 (by decide +kernel)).st g830 (by decide +kernel)).st g853 (by decide +kernel)).st g872 (by decide +kernel))), (fun dr hd => (Option.some.inj (d2.symm.trans hd)) ▸ hO880), (Or.inr (⟨(by first | done | with_reducible assumption | exact om_3a8e1f7c eF), (by (try rw [c883]); first | done | with_reducible assumption | exact om_394b70a2 ov881.1), (by (try rw [c886]); first | done | with_reducible assumption | exact om_d18265bf p101 ov836.2.1 ov861.2.1 ov881.2.1 eF), (by (try rw [c888]); first | done | with_reducible assumption | exact om_da179cc4 p11 p102 ov836.2.2 ov861.2.2 ov881.2.2 eP), trivial⟩)), trivial⟩
