def wif_oE88 : List Nat := []
def wrf_oE88 : List Nat := []
def wlf_oE88 : List Nat := []
set_option maxHeartbeats 4000000 in
theorem sf_oE88 {X : cz_X} (hE : cz_env X) {T : Nat → Nat} {cn : Nat} {K N : Nat → Nat} {I0 : cz_I} {R0 : cz_R} {L0 : cz_L} {Q : cz_Q} (hZ : cz_Z X mX12_readEvent Q) (hW0 : Wf T cn K N I0 R0 0) (gB : cz_B) {a0 : Nat} (ta0 : T a0 = 15) {x1 : Int32} {x2 : Int32} {x3 : Int32} {x4 : Int32} (pre0 : (I0 a0 9).toInt = 5) (nn4 : ∃ b, R0 a0 4 = some b) {ls : Nat → Option Value} (hl0 : ls 0 = some (.ref a0)) (hl1 : ls 1 = some (.int x1)) (hl2 : ls 2 = some (.int x2)) (hl3 : ls 3 = some (.int x3)) (hl4 : ls 4 = some (.int x4)) (hq : ∀ (I' : cz_I) (R' : cz_R) (L' : cz_L), St T cn K N 0 wif_oE88 wrf_oE88 I0 R0 I' R' ∧ ((I' a0 9).toInt = 5) ∧ ((I' a0 13).toInt = (I0 a0 13).toInt) ∧ ((I' a0 14).toInt = (I0 a0 14).toInt) ∧ True → Q none cn K N I' R' L') : Tr X mX12_readEvent 88 ls [] cn K N I0 R0 L0 0 0 := by
  have hS0 : St T cn K N 0 wif_oE88 wrf_oE88 I0 R0 I0 R0 := St.rf0 hW0
  have hL0 : LgS T wlf_oE88 L0 L0 := LgS.rf0
  obtain ⟨a1, d2⟩ := nn4
  have ta1 : T a1 = 14 := hW0.rsN ta0 rfl d2
  obtain ⟨v3, c4⟩ : ∃ v, I0 a0 9 = v := ⟨_, rfl⟩
  have b5 := iv15_9 hW0 ta0 c4
  have p6 := pre0
  rw [c4] at p6
  obtain ⟨v7, c8⟩ : ∃ v, I0 a0 13 = v := ⟨_, rfl⟩
  obtain ⟨v9, c10⟩ : ∃ v, I0 a0 14 = v := ⟨_, rfl⟩
  refine tr_aload_n dX12_readEvent_88 hl0 ?_
  refine q_getI dX12_readEvent_89 fl12_99 (kR15 hS0.1 ta0) c4 ?_
  refine q_iconst dX12_readEvent_92 (by decide) ?_
  intro v11 h12
  refine q_icmp_ne 97 dX12_readEvent_93 (by decide) (fun h13 => ?_) (fun h13 => ?_)
  · skip
    exfalso; exact om_1fa3e129 p6 h12 h13
  · skip
    exact tr_vret hZ dX12_readEvent_96 rfl (by decide) (by decide) (hq _ _ _ ⟨hS0, (by (try rw [c4]); first | done | with_reducible assumption | omega), (by (try rw [c8]); first | done | with_reducible assumption | omega), (by (try rw [c10]); first | done | with_reducible assumption | omega), trivial⟩)
def wif_oE58 : List Nat := [968, 969, 970, 971, 972, 973, 974]
def wrf_oE58 : List Nat := []
def wlf_oE58 : List Nat := []
set_option maxHeartbeats 4000000 in
theorem sf_oE58 {X : cz_X} (hE : cz_env X) {T : Nat → Nat} {cn : Nat} {K N : Nat → Nat} {I0 : cz_I} {R0 : cz_R} {L0 : cz_L} {Q : cz_Q} (hZ : cz_Z X mX12_readEvent Q) (hW0 : Wf T cn K N I0 R0 0) (gB : cz_B) {a0 : Nat} (ta0 : T a0 = 15) {x1 : Int32} {x2 : Int32} {x3 : Int32} (pre0 : (I0 a0 9).toInt = 5) (nn4 : ∃ b, R0 a0 4 = some b) {ls : Nat → Option Value} (hl0 : ls 0 = some (.ref a0)) (hl1 : ls 1 = some (.int x1)) (hl2 : ls 2 = some (.int x2)) (hl3 : ls 3 = some (.int x3)) (hq : ∀ (I' : cz_I) (R' : cz_R) (L' : cz_L), St T cn K N 0 wif_oE58 wrf_oE58 I0 R0 I' R' ∧ ((I' a0 9).toInt = 5) ∧ ((I' a0 13).toInt = (I0 a0 13).toInt) ∧ ((I' a0 14).toInt = (I0 a0 14).toInt) ∧ True → Q none cn K N I' R' L') : Tr X mX12_readEvent 58 ls [] cn K N I0 R0 L0 0 0 := by
  have hS0 : St T cn K N 0 wif_oE58 wrf_oE58 I0 R0 I0 R0 := St.rf0 hW0
  have hL0 : LgS T wlf_oE58 L0 L0 := LgS.rf0
  obtain ⟨a1, d2⟩ := nn4
  have ta1 : T a1 = 14 := hW0.rsN ta0 rfl d2
  obtain ⟨v3, c4⟩ : ∃ v, I0 a0 9 = v := ⟨_, rfl⟩
  have b5 := iv15_9 hS0.1 ta0 c4
  have p6 := pre0
  rw [c4] at p6
  obtain ⟨v7, c8⟩ : ∃ v, I0 a0 13 = v := ⟨_, rfl⟩
  obtain ⟨v9, c10⟩ : ∃ v, I0 a0 14 = v := ⟨_, rfl⟩
  refine tr_iload_n dX12_readEvent_58 hl1 ?_
  refine q_iconst dX12_readEvent_59 (by decide) ?_
  intro v11 h12
  refine q_icmp_ne 69 dX12_readEvent_60 (by decide) (fun h13 => ?_) (fun h13 => ?_)
  · skip
    refine tr_aload_n dX12_readEvent_69 hl0 ?_
    refine tr_ldcwS dX12_readEvent_70 ld12_272 ?_
    refine tr_iload_n dX12_readEvent_73 hl3 ?_
    refine q_iconst dX12_readEvent_74 (by decide) ?_
    intro v14 h15
    refine q_iadd dX12_readEvent_75 ?_
    intro v16
    refine tr_aload_n dX12_readEvent_76 hl0 ?_
    refine tr_getR dX12_readEvent_77 fl12_188 (kR15 hS0.1 ta0) d2 ?_
    obtain ⟨v17, c18⟩ : ∃ v, I0 a1 0 = v := ⟨_, rfl⟩
    have b19 := iv14_0 hW0 ta1 c18
    refine q_getI dX12_readEvent_80 fl12_192 (kR14 hS0.1 ta1) c18 ?_
    refine q_callVi hE (M' := mX12_readPart) (as := [_, _, _]) dX12_readEvent_83 lk12_249 inX12_readPart seX12_readPart myX12_readPart (by decide) ⟨by decide, by decide⟩ rfl (kR15 hS0.1 ta0) (Nat.le_of_ble_eq_true rfl) rfl rfl (by decide) (by decide) (k_X12_readPart hS0.1 ta0 (by decide)) ?_
    rintro v24 cn' K' N' I20 R21 L22 ⟨rfl, rfl, rfl, rfl, g23, p25, w26, -⟩
    have hS27 := hS0.tr g23 (by decide +kernel) (by decide +kernel)
    have ov28 := w26.over (by rw [c4]; exact om_394b70a2 p6)
    obtain ⟨v29, c30⟩ : ∃ v, I20 a0 9 = v := ⟨_, rfl⟩
    have b31 := iv15_9 hS27.1 ta0 c30
    obtain ⟨v32, c33⟩ : ∃ v, I20 a0 13 = v := ⟨_, rfl⟩
    obtain ⟨v34, c35⟩ : ∃ v, I20 a0 14 = v := ⟨_, rfl⟩
    (try rw [c30] at ov28)
    (try rw [c33] at ov28)
    (try rw [c35] at ov28)
    (try rw [c4] at ov28)
    (try rw [c8] at ov28)
    (try rw [c10] at ov28)
    refine tr_istore dX12_readEvent_86 (by decide) (by decide) ?_
    refine sf_oE88 hE hZ hS27.1 (gB) ta0 (by (try rw [c30]); first | done | with_reducible assumption | exact om_394b70a2 ov28.1) ⟨_, d2⟩ hl0 hl1 hl2 hl3 rfl ?_
    rintro I36 R37 L38 ⟨g39, p40, p41, p42, -⟩
    obtain rfl : R0 = R37 := funext fun a => funext fun j => (g39.2.2 a j (wm_no rfl)).symm
    have hS43 := hS27.tr g39 (by decide +kernel) (by decide +kernel)
    have c44 : I36 a0 9 = v29 := (g39.cell ta0 (by decide +kernel)).trans c30
    have c45 : I36 a0 13 = v32 := (g39.cell ta0 (by decide +kernel)).trans c33
    have c46 : I36 a0 14 = v34 := (g39.cell ta0 (by decide +kernel)).trans c35
    rw [c44] at p40
    rw [c45] at p41
    rw [c33] at p41
    rw [c46] at p42
    rw [c35] at p42
    exact hq _ _ _ ⟨hS43, (by (try rw [c44]); first | done | with_reducible assumption | omega), (by (try rw [c45]); (try rw [c8]); first | done | with_reducible assumption | exact om_acd7a85a ov28.2.1), (by (try rw [c46]); (try rw [c10]); first | done | with_reducible assumption | exact om_acd7a85a ov28.2.2), trivial⟩
  · skip
    refine tr_iload_n dX12_readEvent_63 hl3 ?_
    refine q_iconst dX12_readEvent_64 (by decide) ?_
    intro v47 h48
    refine q_iadd dX12_readEvent_65 ?_
    intro v49
    refine tr_goto 86 dX12_readEvent_66 (by decide) ?_
    refine tr_istore dX12_readEvent_86 (by decide) (by decide) ?_
    refine sf_oE88 hE hZ hS0.1 (gB) ta0 (by (try rw [c4]); first | done | with_reducible assumption | omega) ⟨_, d2⟩ hl0 hl1 hl2 hl3 rfl ?_
    rintro I50 R51 L52 ⟨g53, p54, p55, p56, -⟩
    obtain rfl : R0 = R51 := funext fun a => funext fun j => (g53.2.2 a j (wm_no rfl)).symm
    have hS57 := hS0.tr g53 (by decide +kernel) (by decide +kernel)
    have c58 : I50 a0 9 = v3 := (g53.cell ta0 (by decide +kernel)).trans c4
    have c59 : I50 a0 13 = v7 := (g53.cell ta0 (by decide +kernel)).trans c8
    have c60 : I50 a0 14 = v9 := (g53.cell ta0 (by decide +kernel)).trans c10
    rw [c58] at p54
    rw [c59] at p55
    rw [c8] at p55
    rw [c60] at p56
    rw [c10] at p56
    exact hq _ _ _ ⟨hS57, (by (try rw [c58]); first | done | with_reducible assumption | omega), (by (try rw [c59]); (try rw [c8]); first | done | with_reducible assumption | omega), (by (try rw [c60]); (try rw [c10]); first | done | with_reducible assumption | omega), trivial⟩
def wif_oE43 : List Nat := [968, 969, 970, 971, 972, 973, 974]
def wrf_oE43 : List Nat := []
def wlf_oE43 : List Nat := []
set_option maxHeartbeats 4000000 in
theorem sf_oE43 {X : cz_X} (hE : cz_env X) {T : Nat → Nat} {cn : Nat} {K N : Nat → Nat} {I0 : cz_I} {R0 : cz_R} {L0 : cz_L} {Q : cz_Q} (hZ : cz_Z X mX12_readEvent Q) (hW0 : Wf T cn K N I0 R0 0) (gB : cz_B) {a0 : Nat} (ta0 : T a0 = 15) {x1 : Int32} {x2 : Int32} (pre0 : (I0 a0 9).toInt = 5) (nn4 : ∃ b, R0 a0 4 = some b) {ls : Nat → Option Value} (hl0 : ls 0 = some (.ref a0)) (hl1 : ls 1 = some (.int x1)) (hl2 : ls 2 = some (.int x2)) (hq : ∀ (I' : cz_I) (R' : cz_R) (L' : cz_L), St T cn K N 0 wif_oE43 wrf_oE43 I0 R0 I' R' ∧ ((I' a0 9).toInt = 5) ∧ ((I' a0 13).toInt = (I0 a0 13).toInt) ∧ ((I' a0 14).toInt = (I0 a0 14).toInt) ∧ True → Q none cn K N I' R' L') : Tr X mX12_readEvent 43 ls [] cn K N I0 R0 L0 0 0 := by
  have hS0 : St T cn K N 0 wif_oE43 wrf_oE43 I0 R0 I0 R0 := St.rf0 hW0
  have hL0 : LgS T wlf_oE43 L0 L0 := LgS.rf0
  obtain ⟨a1, d2⟩ := nn4
  have ta1 : T a1 = 14 := hW0.rsN ta0 rfl d2
  obtain ⟨v3, c4⟩ : ∃ v, I0 a0 9 = v := ⟨_, rfl⟩
  have b5 := iv15_9 hS0.1 ta0 c4
  have p6 := pre0
  rw [c4] at p6
  obtain ⟨v7, c8⟩ : ∃ v, I0 a0 13 = v := ⟨_, rfl⟩
  obtain ⟨v9, c10⟩ : ∃ v, I0 a0 14 = v := ⟨_, rfl⟩
  refine tr_aload_n dX12_readEvent_43 hl0 ?_
  refine q_iconst dX12_readEvent_44 (by decide) ?_
  intro v11 h12
  refine tr_aload_n dX12_readEvent_45 hl0 ?_
  refine tr_getR dX12_readEvent_46 fl12_188 (kR15 hS0.1 ta0) d2 ?_
  obtain ⟨v13, c14⟩ : ∃ v, I0 a1 0 = v := ⟨_, rfl⟩
  have b15 := iv14_0 hW0 ta1 c14
  refine q_getI dX12_readEvent_49 fl12_192 (kR14 hS0.1 ta1) c14 ?_
  refine q_iconst dX12_readEvent_52 (by decide) ?_
  intro v16 h17
  refine q_isubE dX12_readEvent_53 (by intro j1 j2 j3 j4; exact om_c6626f59 b15.2 b15.1 h17) ?_
  intro v18 h19
  refine q_callVi hE (M' := mX12_readWhole) (as := [_, _]) dX12_readEvent_54 lk12_161 inX12_readWhole seX12_readWhole myX12_readWhole (by decide) ⟨by decide, by decide⟩ rfl (kR15 hS0.1 ta0) (Nat.le_of_ble_eq_true rfl) rfl rfl (by decide) (by decide) (k_X12_readWhole hS0.1 ta0) ?_
  rintro v24 cn' K' N' I20 R21 L22 ⟨rfl, rfl, rfl, rfl, g23, p25, w26, -⟩
  have hS27 := hS0.tr g23 (by decide +kernel) (by decide +kernel)
  have b28 : 0 ≤ v24.toInt ∧ v24.toInt ≤ 239 := by exact om_62c0eb21 h12 b15.2 b15.1 h17 h19 p25
  clear p25
  have ov29 := w26.over (by rw [c4]; exact om_394b70a2 p6)
  obtain ⟨v30, c31⟩ : ∃ v, I20 a0 9 = v := ⟨_, rfl⟩
  have b32 := iv15_9 hS27.1 ta0 c31
  obtain ⟨v33, c34⟩ : ∃ v, I20 a0 13 = v := ⟨_, rfl⟩
  obtain ⟨v35, c36⟩ : ∃ v, I20 a0 14 = v := ⟨_, rfl⟩
  (try rw [c31] at ov29)
  (try rw [c34] at ov29)
  (try rw [c36] at ov29)
  (try rw [c4] at ov29)
  (try rw [c8] at ov29)
  (try rw [c10] at ov29)
  refine tr_istore_n dX12_readEvent_57 (by decide) (by decide) ?_
  refine sf_oE58 hE hZ hS27.1 (gB) ta0 (by (try rw [c31]); first | done | with_reducible assumption | exact om_394b70a2 ov29.1) ⟨_, d2⟩ hl0 hl1 hl2 rfl ?_
  rintro I37 R38 L39 ⟨g40, p41, p42, p43, -⟩
  obtain rfl : R0 = R38 := funext fun a => funext fun j => (g40.2.2 a j (wm_no rfl)).symm
  have hS44 := hS27.tr g40 (by decide +kernel) (by decide +kernel)
  obtain ⟨v45, c46⟩ : ∃ v, I37 a0 9 = v := ⟨_, rfl⟩
  have b47 := iv15_9 hS44.1 ta0 c46
  rw [c46] at p41
  obtain ⟨v48, c49⟩ : ∃ v, I37 a0 13 = v := ⟨_, rfl⟩
  rw [c49] at p42
  rw [c34] at p42
  obtain ⟨v50, c51⟩ : ∃ v, I37 a0 14 = v := ⟨_, rfl⟩
  rw [c51] at p43
  rw [c36] at p43
  exact hq _ _ _ ⟨hS44, (by (try rw [c46]); first | done | with_reducible assumption | omega), (by (try rw [c49]); (try rw [c8]); first | done | with_reducible assumption | exact om_9fa72578 ov29.2.1 p42), (by (try rw [c51]); (try rw [c10]); first | done | with_reducible assumption | exact om_9fa72578 ov29.2.2 p43), trivial⟩
def wif_oE13 : List Nat := [968, 969, 970, 971, 972, 973, 974]
def wrf_oE13 : List Nat := []
def wlf_oE13 : List Nat := []
set_option maxHeartbeats 4000000 in
theorem sf_oE13 {X : cz_X} (hE : cz_env X) {T : Nat → Nat} {cn : Nat} {K N : Nat → Nat} {I0 : cz_I} {R0 : cz_R} {L0 : cz_L} {Q : cz_Q} (hZ : cz_Z X mX12_readEvent Q) (hW0 : Wf T cn K N I0 R0 0) (gB : cz_B) {a0 : Nat} (ta0 : T a0 = 15) {x1 : Int32} (pre0 : (I0 a0 9).toInt = 5) (nn4 : ∃ b, R0 a0 4 = some b) {ls : Nat → Option Value} (hl0 : ls 0 = some (.ref a0)) (hl1 : ls 1 = some (.int x1)) (hq : ∀ (I' : cz_I) (R' : cz_R) (L' : cz_L), St T cn K N 0 wif_oE13 wrf_oE13 I0 R0 I' R' ∧ ((I' a0 9).toInt = 5) ∧ ((I' a0 13).toInt = (I0 a0 13).toInt) ∧ ((I' a0 14).toInt = (I0 a0 14).toInt) ∧ True → Q none cn K N I' R' L') : Tr X mX12_readEvent 13 ls [] cn K N I0 R0 L0 0 0 := by
  have hS0 : St T cn K N 0 wif_oE13 wrf_oE13 I0 R0 I0 R0 := St.rf0 hW0
  have hL0 : LgS T wlf_oE13 L0 L0 := LgS.rf0
  obtain ⟨a1, d2⟩ := nn4
  have ta1 : T a1 = 14 := hW0.rsN ta0 rfl d2
  obtain ⟨v3, c4⟩ : ∃ v, I0 a0 9 = v := ⟨_, rfl⟩
  have b5 := iv15_9 hS0.1 ta0 c4
  have p6 := pre0
  rw [c4] at p6
  obtain ⟨v7, c8⟩ : ∃ v, I0 a0 13 = v := ⟨_, rfl⟩
  obtain ⟨v9, c10⟩ : ∃ v, I0 a0 14 = v := ⟨_, rfl⟩
  refine tr_iload_n dX12_readEvent_13 hl1 ?_
  refine q_iconst dX12_readEvent_14 (by decide) ?_
  intro v11 h12
  refine q_icmp_eq 23 dX12_readEvent_15 (by decide) (fun h13 => ?_) (fun h13 => ?_)
  · skip
    refine tr_aload_n dX12_readEvent_23 hl0 ?_
    refine q_iconst dX12_readEvent_24 (by decide) ?_
    intro v14 h15
    refine tr_aload_n dX12_readEvent_25 hl0 ?_
    refine tr_getR dX12_readEvent_26 fl12_188 (kR15 hS0.1 ta0) d2 ?_
    obtain ⟨v16, c17⟩ : ∃ v, I0 a1 1 = v := ⟨_, rfl⟩
    have b18 := iv14_1 hW0 ta1 c17
    refine q_getI dX12_readEvent_29 fl12_263 (kR14 hS0.1 ta1) c17 ?_
    refine q_iconst dX12_readEvent_32 (by decide) ?_
    intro v19 h20
    refine q_isubE dX12_readEvent_33 (by intro j1 j2 j3 j4; exact om_529b66b2 b18.2 b18.1 h20) ?_
    intro v21 h22
    refine q_callVi hE (M' := mX12_readWhole) (as := [_, _]) dX12_readEvent_34 lk12_161 inX12_readWhole seX12_readWhole myX12_readWhole (by decide) ⟨by decide, by decide⟩ rfl (kR15 hS0.1 ta0) (Nat.le_of_ble_eq_true rfl) rfl rfl (by decide) (by decide) (k_X12_readWhole hS0.1 ta0) ?_
    rintro v27 cn' K' N' I23 R24 L25 ⟨rfl, rfl, rfl, rfl, g26, p28, w29, -⟩
    have hS30 := hS0.tr g26 (by decide +kernel) (by decide +kernel)
    have b31 : 0 ≤ v27.toInt ∧ v27.toInt ≤ 3 := by exact om_55c81950 h15 b18.2 b18.1 h20 h22 p28
    clear p28
    have ov32 := w29.over (by rw [c4]; exact om_394b70a2 p6)
    obtain ⟨v33, c34⟩ : ∃ v, I23 a0 9 = v := ⟨_, rfl⟩
    have b35 := iv15_9 hS30.1 ta0 c34
    obtain ⟨v36, c37⟩ : ∃ v, I23 a0 13 = v := ⟨_, rfl⟩
    obtain ⟨v38, c39⟩ : ∃ v, I23 a0 14 = v := ⟨_, rfl⟩
    (try rw [c34] at ov32)
    (try rw [c37] at ov32)
    (try rw [c39] at ov32)
    (try rw [c4] at ov32)
    (try rw [c8] at ov32)
    (try rw [c10] at ov32)
    refine tr_goto 42 dX12_readEvent_37 (by decide) ?_
    refine tr_istore_n dX12_readEvent_42 (by decide) (by decide) ?_
    refine sf_oE43 hE hZ hS30.1 (gB) ta0 (by (try rw [c34]); first | done | with_reducible assumption | exact om_394b70a2 ov32.1) ⟨_, d2⟩ hl0 hl1 rfl ?_
    rintro I40 R41 L42 ⟨g43, p44, p45, p46, -⟩
    obtain rfl : R0 = R41 := funext fun a => funext fun j => (g43.2.2 a j (wm_no rfl)).symm
    have hS47 := hS30.tr g43 (by decide +kernel) (by decide +kernel)
    obtain ⟨v48, c49⟩ : ∃ v, I40 a0 9 = v := ⟨_, rfl⟩
    have b50 := iv15_9 hS47.1 ta0 c49
    rw [c49] at p44
    obtain ⟨v51, c52⟩ : ∃ v, I40 a0 13 = v := ⟨_, rfl⟩
    rw [c52] at p45
    rw [c37] at p45
    obtain ⟨v53, c54⟩ : ∃ v, I40 a0 14 = v := ⟨_, rfl⟩
    rw [c54] at p46
    rw [c39] at p46
    exact hq _ _ _ ⟨hS47, (by (try rw [c49]); first | done | with_reducible assumption | omega), (by (try rw [c52]); (try rw [c8]); first | done | with_reducible assumption | exact om_9fa72578 ov32.2.1 p45), (by (try rw [c54]); (try rw [c10]); first | done | with_reducible assumption | exact om_9fa72578 ov32.2.2 p46), trivial⟩
  · skip
    refine tr_iload_n dX12_readEvent_18 hl1 ?_
    refine q_iconst dX12_readEvent_19 (by decide) ?_
    intro v55 h56
    refine q_icmp_ne 40 dX12_readEvent_20 (by decide) (fun h57 => ?_) (fun h57 => ?_)
    · skip
      refine q_bipush dX12_readEvent_40 (by decide +kernel) ?_
      intro v58 h59
      refine tr_istore_n dX12_readEvent_42 (by decide) (by decide) ?_
      refine sf_oE43 hE hZ hS0.1 (gB) ta0 (by (try rw [c4]); first | done | with_reducible assumption | omega) ⟨_, d2⟩ hl0 hl1 rfl ?_
      rintro I60 R61 L62 ⟨g63, p64, p65, p66, -⟩
      obtain rfl : R0 = R61 := funext fun a => funext fun j => (g63.2.2 a j (wm_no rfl)).symm
      have hS67 := hS0.tr g63 (by decide +kernel) (by decide +kernel)
      obtain ⟨v68, c69⟩ : ∃ v, I60 a0 9 = v := ⟨_, rfl⟩
      have b70 := iv15_9 hS67.1 ta0 c69
      rw [c69] at p64
      obtain ⟨v71, c72⟩ : ∃ v, I60 a0 13 = v := ⟨_, rfl⟩
      rw [c72] at p65
      rw [c8] at p65
      obtain ⟨v73, c74⟩ : ∃ v, I60 a0 14 = v := ⟨_, rfl⟩
      rw [c74] at p66
      rw [c10] at p66
      exact hq _ _ _ ⟨hS67, (by (try rw [c69]); first | done | with_reducible assumption | omega), (by (try rw [c72]); (try rw [c8]); first | done | with_reducible assumption | omega), (by (try rw [c74]); (try rw [c10]); first | done | with_reducible assumption | omega), trivial⟩
    · skip
      refine tr_aload_n dX12_readEvent_23 hl0 ?_
      refine q_iconst dX12_readEvent_24 (by decide) ?_
      intro v75 h76
      refine tr_aload_n dX12_readEvent_25 hl0 ?_
      refine tr_getR dX12_readEvent_26 fl12_188 (kR15 hS0.1 ta0) d2 ?_
      obtain ⟨v77, c78⟩ : ∃ v, I0 a1 1 = v := ⟨_, rfl⟩
      have b79 := iv14_1 hW0 ta1 c78
      refine q_getI dX12_readEvent_29 fl12_263 (kR14 hS0.1 ta1) c78 ?_
      refine q_iconst dX12_readEvent_32 (by decide) ?_
      intro v80 h81
      refine q_isubE dX12_readEvent_33 (by intro j1 j2 j3 j4; exact om_529b66b2 b79.2 b79.1 h81) ?_
      intro v82 h83
      refine q_callVi hE (M' := mX12_readWhole) (as := [_, _]) dX12_readEvent_34 lk12_161 inX12_readWhole seX12_readWhole myX12_readWhole (by decide) ⟨by decide, by decide⟩ rfl (kR15 hS0.1 ta0) (Nat.le_of_ble_eq_true rfl) rfl rfl (by decide) (by decide) (k_X12_readWhole hS0.1 ta0) ?_
      rintro v88 cn' K' N' I84 R85 L86 ⟨rfl, rfl, rfl, rfl, g87, p89, w90, -⟩
      have hS91 := hS0.tr g87 (by decide +kernel) (by decide +kernel)
      have b92 : 0 ≤ v88.toInt ∧ v88.toInt ≤ 3 := by exact om_55c81950 h76 b79.2 b79.1 h81 h83 p89
      clear p89
      have ov93 := w90.over (by rw [c4]; exact om_394b70a2 p6)
      obtain ⟨v94, c95⟩ : ∃ v, I84 a0 9 = v := ⟨_, rfl⟩
      have b96 := iv15_9 hS91.1 ta0 c95
      obtain ⟨v97, c98⟩ : ∃ v, I84 a0 13 = v := ⟨_, rfl⟩
      obtain ⟨v99, c100⟩ : ∃ v, I84 a0 14 = v := ⟨_, rfl⟩
      (try rw [c95] at ov93)
      (try rw [c98] at ov93)
      (try rw [c100] at ov93)
      (try rw [c4] at ov93)
      (try rw [c8] at ov93)
      (try rw [c10] at ov93)
      refine tr_goto 42 dX12_readEvent_37 (by decide) ?_
      refine tr_istore_n dX12_readEvent_42 (by decide) (by decide) ?_
      refine sf_oE43 hE hZ hS91.1 (gB) ta0 (by (try rw [c95]); first | done | with_reducible assumption | exact om_394b70a2 ov93.1) ⟨_, d2⟩ hl0 hl1 rfl ?_
      rintro I101 R102 L103 ⟨g104, p105, p106, p107, -⟩
      obtain rfl : R0 = R102 := funext fun a => funext fun j => (g104.2.2 a j (wm_no rfl)).symm
      have hS108 := hS91.tr g104 (by decide +kernel) (by decide +kernel)
      obtain ⟨v109, c110⟩ : ∃ v, I101 a0 9 = v := ⟨_, rfl⟩
      have b111 := iv15_9 hS108.1 ta0 c110
      rw [c110] at p105
      obtain ⟨v112, c113⟩ : ∃ v, I101 a0 13 = v := ⟨_, rfl⟩
      rw [c113] at p106
      rw [c98] at p106
      obtain ⟨v114, c115⟩ : ∃ v, I101 a0 14 = v := ⟨_, rfl⟩
      rw [c115] at p107
      rw [c100] at p107
      exact hq _ _ _ ⟨hS108, (by (try rw [c110]); first | done | with_reducible assumption | omega), (by (try rw [c113]); (try rw [c8]); first | done | with_reducible assumption | exact om_9fa72578 ov93.2.1 p106), (by (try rw [c115]); (try rw [c10]); first | done | with_reducible assumption | exact om_9fa72578 ov93.2.2 p107), trivial⟩
def wik_X12_readEvent : List Nat := [898, 968, 969, 970, 971, 972, 973, 974, 3519, 3583, 3647, 3711]
def wrk_X12_readEvent : List Nat := []
def wlk_X12_readEvent : List Nat := [975]
set_option maxHeartbeats 4000000 in
theorem fk_X12_readEvent {l : Launch} {T : Nat → Nat} {cn : Nat} {K N : Nat → Nat} {I0 : cz_I} {R0 : cz_R} {L0 : cz_L} (hW0 : Wf T cn K N I0 R0 0) (gB : cz_B) (gs : Int) (gQ : Nat → Int) {a0 : Nat} (ta0 : T a0 = 15) {x1 : Int32} (hx1 : 0 ≤ x1.toInt ∧ x1.toInt ≤ 4) (hT : ∀ t, R0 a0 5 = some t → Tx I0 t gB) (hN : ∀ b, R0 a0 4 = some b → NmM I0 R0 L0 b gQ) (pre0 : (I0 a0 9).toInt = (tkM gB gs)) (pre1 : (I0 a0 9).toInt ≤ 4) (pre2 : (I0 a0 10).toInt = (tkS gB gs)) (pre3 : (I0 a0 11).toInt = (tkG gB gs)) (pre4 : (AtW ((tkK gB gs)) ((L0 a0 15).toInt) ((tkW gB gs)))) (pre5 : (AtV ((tkK gB gs)) ((I0 a0 12).toInt) ((tkV gB gs)))) (pre6 : (AtN ((tkK gB gs)) ((I0 a0 8).toInt) ((tkN gB gs)))) (pre7 : (I0 a0 7).toInt = (gB.2)) (pre8 : ∀ b1, R0 a0 4 = some b1 → (I0 b1 0).toInt = (gQ 0)) (pre9 : ∀ b1, R0 a0 4 = some b1 → (I0 b1 1).toInt = (gQ 1)) (pre10 : ∀ b1, R0 a0 4 = some b1 → (I0 b1 2).toInt = (gQ 2)) (pre11 : ∀ b1, R0 a0 4 = some b1 → (I0 b1 3).toInt = (gQ 3)) (pre12 : ∀ b1, R0 a0 4 = some b1 → (I0 b1 4).toInt = (gQ 4)) (pre13 : ∀ b1, R0 a0 4 = some b1 → (I0 b1 5).toInt = (gQ 5)) (pre14 : ∀ b1, R0 a0 4 = some b1 → (I0 b1 6).toInt = (gQ 6)) (pre15 : ∀ b1, R0 a0 4 = some b1 → (I0 b1 9).toInt = (gQ 8)) (pre16 : (Q7M ((gQ 0)) ((gQ 7)))) (pre17 : (tkK gB gs) = 1) (pre18 : (srt gB gs) = x1.toInt) (nn4 : ∃ b, R0 a0 4 = some b) : ConE l mX12_readEvent [.ref a0, .int x1] cn K N I0 R0 L0 (ca_v (fun cn' K' N' I' R' L' => cn = cn' ∧ K = K' ∧ N = N' ∧ R0 = R' ∧ St T cn K N 0 wik_X12_readEvent wrk_X12_readEvent I0 R0 I' R0 ∧ (∀ dr, R0 a0 4 = some dr → FrO 14 dr T I0 I') ∧ ((((lnF gB gQ gs) = 0) ∧ (∀ b1, R0 a0 4 = some b1 → (I' b1 0).toInt = (lnQ gB gQ gs 0)) ∧ (∀ b1, R0 a0 4 = some b1 → (I' b1 1).toInt = (lnQ gB gQ gs 1)) ∧ (∀ b1, R0 a0 4 = some b1 → (I' b1 2).toInt = (lnQ gB gQ gs 2)) ∧ (∀ b1, R0 a0 4 = some b1 → (I' b1 3).toInt = (lnQ gB gQ gs 3)) ∧ (∀ b1, R0 a0 4 = some b1 → (I' b1 4).toInt = (lnQ gB gQ gs 4)) ∧ (∀ b1, R0 a0 4 = some b1 → (I' b1 5).toInt = (lnQ gB gQ gs 5)) ∧ (∀ b1, R0 a0 4 = some b1 → (I' b1 6).toInt = (lnQ gB gQ gs 6)) ∧ (∀ b1, R0 a0 4 = some b1 → (I' b1 9).toInt = (lnQ gB gQ gs 8)) ∧ ((I' a0 13).toInt = (I0 a0 13).toInt) ∧ ((I' a0 9).toInt = (tkM gB (lnS gB gQ gs))) ∧ ((I' a0 9).toInt ≤ 4) ∧ ((I' a0 10).toInt = (tkS gB (lnS gB gQ gs))) ∧ ((I' a0 11).toInt = (tkG gB (lnS gB gQ gs))) ∧ ((AtW ((tkK gB (lnS gB gQ gs))) ((L' a0 15).toInt) ((tkW gB (lnS gB gQ gs))))) ∧ ((AtV ((tkK gB (lnS gB gQ gs))) ((I' a0 12).toInt) ((tkV gB (lnS gB gQ gs))))) ∧ ((AtN ((tkK gB (lnS gB gQ gs))) ((I' a0 8).toInt) ((tkN gB (lnS gB gQ gs))))) ∧ LgS T wlk_X12_readEvent L0 L' ∧ (∀ b, R0 a0 4 = some b → NmM I' R0 L' b (lnQ gB gQ gs)) ∧ True) ∨ (((lnF gB gQ gs) ≠ 0) ∧ ((I' a0 9).toInt = 5) ∧ ((I' a0 13).toInt = (lnF gB gQ gs)) ∧ ((I' a0 14).toInt = (lnP gB gQ gs)) ∧ True)) ∧ True)) := by
  refine ConE.of (by decide +kernel) rfl (Nat.le_of_ble_eq_true rfl) rfl (fun X hX hZ hE => ?_)
  subst hX
  have hS0 : St T cn K N 0 wik_X12_readEvent wrk_X12_readEvent I0 R0 I0 R0 := St.rf0 hW0
  have hL0 : LgS T wlk_X12_readEvent L0 L0 := LgS.rf0
  obtain ⟨a1, d2⟩ := nn4
  have ta1 : T a1 = 14 := hW0.rsN ta0 rfl d2
  obtain ⟨v3, c4⟩ : ∃ v, I0 a0 9 = v := ⟨_, rfl⟩
  have b5 := iv15_9 hS0.1 ta0 c4
  have p6 := pre0
  rw [c4] at p6
  have p7 := pre1
  rw [c4] at p7
  obtain ⟨v8, c9⟩ : ∃ v, I0 a0 10 = v := ⟨_, rfl⟩
  have b10 := iv15_10 hS0.1 ta0 c9
  have p11 := pre2
  rw [c9] at p11
  obtain ⟨v12, c13⟩ : ∃ v, I0 a0 11 = v := ⟨_, rfl⟩
  have p14 := pre3
  rw [c13] at p14
  obtain ⟨y15, c16⟩ : ∃ v, L0 a0 15 = v := ⟨_, rfl⟩
  have p17 := pre4
  rw [c16] at p17
  obtain ⟨v18, c19⟩ : ∃ v, I0 a0 12 = v := ⟨_, rfl⟩
  have p20 := pre5
  rw [c19] at p20
  obtain ⟨v21, c22⟩ : ∃ v, I0 a0 8 = v := ⟨_, rfl⟩
  have b23 := iv15_8 hS0.1 ta0 c22
  have p24 := pre6
  rw [c22] at p24
  obtain ⟨v25, c26⟩ : ∃ v, I0 a0 7 = v := ⟨_, rfl⟩
  have b27 := iv15_7 hW0 ta0 c26
  have p28 := pre7
  rw [c26] at p28
  obtain ⟨v29, c30⟩ : ∃ v, I0 a1 0 = v := ⟨_, rfl⟩
  have b31 := iv14_0 hW0 ta1 c30
  have p32 := pre8 _ d2
  rw [c30] at p32
  obtain ⟨v33, c34⟩ : ∃ v, I0 a1 1 = v := ⟨_, rfl⟩
  have b35 := iv14_1 hW0 ta1 c34
  have p36 := pre9 _ d2
  rw [c34] at p36
  obtain ⟨v37, c38⟩ : ∃ v, I0 a1 2 = v := ⟨_, rfl⟩
  have b39 := iv14_2 hS0.1 ta1 c38
  have p40 := pre10 _ d2
  rw [c38] at p40
  obtain ⟨v41, c42⟩ : ∃ v, I0 a1 3 = v := ⟨_, rfl⟩
  have b43 := iv14_3 hW0 ta1 c42
  have p44 := pre11 _ d2
  rw [c42] at p44
  obtain ⟨v45, c46⟩ : ∃ v, I0 a1 4 = v := ⟨_, rfl⟩
  have b47 := iv14_4 hW0 ta1 c46
  have p48 := pre12 _ d2
  rw [c46] at p48
  obtain ⟨v49, c50⟩ : ∃ v, I0 a1 5 = v := ⟨_, rfl⟩
  have b51 := iv14_5 hW0 ta1 c50
  have p52 := pre13 _ d2
  rw [c50] at p52
  obtain ⟨v53, c54⟩ : ∃ v, I0 a1 6 = v := ⟨_, rfl⟩
  have b55 := iv14_6 hW0 ta1 c54
  have p56 := pre14 _ d2
  rw [c54] at p56
  obtain ⟨v57, c58⟩ : ∃ v, I0 a1 9 = v := ⟨_, rfl⟩
  have b59 := iv14_9 hW0 ta1 c58
  have p60 := pre15 _ d2
  rw [c58] at p60
  have p61 := pre16
  have p62 := pre17
  have p63 := pre18
  obtain ⟨v64, c65⟩ : ∃ v, I0 a0 13 = v := ⟨_, rfl⟩
  have hM0 := hN _ d2
  have hO0 : FrO 14 a1 T I0 I0 := FrO.rf
  have hF := lnF_ch gB gQ gs
  have hP := lnP_ch gB gQ gs
  replace hF := hF.neg (by exact om_c8593dd0 hx1.2 hx1.1 pre18)
  replace hP := hP.neg (by exact om_c8593dd0 hx1.2 hx1.1 pre18)
  replace hF := hF.neg (by exact om_62f15f34 hx1.2 hx1.1 pre18)
  replace hP := hP.neg (by exact om_62f15f34 hx1.2 hx1.1 pre18)
  have kd66 : x1.toInt = 0 ∨ x1.toInt = 1 ∨ x1.toInt = 2 ∨ x1.toInt = 3 ∨ x1.toInt = 4 := by exact om_32cc62f0 hx1.2 hx1.1 pre18
  rcases kd66 with kd66 | kd66 | kd66 | kd66 | kd66
  · skip
    refine tr_aload_n dX12_readEvent_0 rfl ?_
    refine tr_aload_n dX12_readEvent_1 rfl ?_
    refine tr_getR dX12_readEvent_2 fl12_188 (kR15 hS0.1 ta0) d2 ?_
    refine q_getI dX12_readEvent_5 fl12_265 (kR14 hS0.1 ta1) c38 ?_
    refine q_bipush dX12_readEvent_8 (by decide +kernel) ?_
    intro v67 h68
    refine q_callVv hE (M' := mX12_begins) (as := [_, _]) dX12_readEvent_10 lk12_268 inX12_begins seX12_begins myX12_begins (by decide) ⟨by decide, by decide⟩ rfl (kR15 hS0.1 ta0) (Nat.le_of_ble_eq_true rfl) rfl rfl (by decide) (by decide) (fk_X12_begins hS0.1 (gB) (gs) (gQ) ta0 (TxA.kp hT hS0 ta0 rfl rfl rfl (by decide +kernel) (by decide +kernel)) (by (try rw [c4]); first | done | with_reducible assumption | omega) (by (try rw [c4]); first | done | with_reducible assumption | omega) (by (try rw [c9]); first | done | with_reducible assumption | omega) (by (try rw [c13]); first | done | with_reducible assumption | omega) (by (try rw [c16]); first | done | assumption) (by (try rw [c19]); first | done | assumption) (by (try rw [c22]); first | done | assumption) (by (try rw [c26]); first | done | with_reducible assumption | omega) (fun q0 z0 => by obtain rfl := Option.some.inj ((d2).symm.trans z0); (try rw [c30]); first | done | with_reducible assumption | omega) (by first | done | with_reducible assumption | omega) ⟨_, d2⟩) ?_
    rintro cn' K' N' I69 R70 L71 ⟨rfl, rfl, rfl, rfl, g72, dj75, -⟩
    have hM76 : NmM I69 R0 L0 a1 gQ := NmM.kpS hM0 g72 hS0.1 ta1 (by decide +kernel) (by decide +kernel)
    have hS77 := hS0.tr g72 (by decide +kernel) (by decide +kernel)
    have c78 : I69 a1 2 = v37 := (g72.cell ta1 (by decide +kernel)).trans c38
    have hO79 : FrO 14 a1 T I0 I69 := hO0.st g72 (by decide +kernel)
    rcases dj75 with ⟨p80, p81, p82, p83, p84, p85, p86, p87, p88, p89, gl90, -⟩ | ⟨p91, p92, p93, p94, -⟩ | ⟨p95, p96, p97, p98, p99, -⟩
    · skip
      have hL100 := hL0.tr gl90 (by decide +kernel)
      have hM101 : NmM I69 R0 L71 a1 gQ := NmM.kpL hM76 gl90 hS77.1 ta1 (by decide +kernel)
      obtain ⟨v102, c103⟩ : ∃ v, I69 a0 13 = v := ⟨_, rfl⟩
      rw [c103] at p82
      rw [c65] at p82
      obtain ⟨v104, c105⟩ : ∃ v, I69 a0 9 = v := ⟨_, rfl⟩
      have b106 := iv15_9 hS77.1 ta0 c105
      rw [c105] at p83
      rw [c105] at p84
      obtain ⟨v107, c108⟩ : ∃ v, I69 a0 10 = v := ⟨_, rfl⟩
      have b109 := iv15_10 hS77.1 ta0 c108
      rw [c108] at p85
      obtain ⟨v110, c111⟩ : ∃ v, I69 a0 11 = v := ⟨_, rfl⟩
      rw [c111] at p86
      obtain ⟨y112, c113⟩ : ∃ v, L71 a0 15 = v := ⟨_, rfl⟩
      rw [c113] at p87
      obtain ⟨v114, c115⟩ : ∃ v, I69 a0 12 = v := ⟨_, rfl⟩
      rw [c115] at p88
      obtain ⟨v116, c117⟩ : ∃ v, I69 a0 8 = v := ⟨_, rfl⟩
      have b118 := iv15_8 hS77.1 ta0 c117
      rw [c117] at p89
      have p119 := p61
      unfold Q7M at p119
      replace hF := hF.neg (by exact om_f73a7bb7 pre18 b31.2 b31.1 p32 b39.2 b39.1 p40 kd66 h68 p80 p81 p119)
      replace hP := hP.neg (by exact om_f73a7bb7 pre18 b31.2 b31.1 p32 b39.2 b39.1 p40 kd66 h68 p80 p81 p119)
      replace hF := hF.neg (by exact om_c0495bd2 pre18 kd66 p81 p119)
      replace hP := hP.neg (by exact om_c0495bd2 pre18 kd66 p81 p119)
      clear p119
      obtain ⟨w120, w121, w122, w123, w124, w125, w126, w127, w128, w129, w130, w131⟩ := lnl_e (B := gB) (Q := gQ) (s := gs) (by exact om_61d53325 pre18 kd66) (by exact om_a4c35619 pre18 kd66)
      replace hF := hF.to w120 (evF_c0 (B := gB) (Q := gQ) (k := srt gB gs) (s := (tkN gB gs)) (by exact om_61d53325 pre18 kd66) (by exact om_e8b092fc pre18 kd66))
      replace hP := hP.to w121 (evP_c0 (B := gB) (Q := gQ) (k := srt gB gs) (s := (tkN gB gs)) (by exact om_61d53325 pre18 kd66) (by exact om_e8b092fc pre18 kd66))
      refine tr_iload_n dX12_readEvent_13 rfl ?_
      refine q_iconst dX12_readEvent_14 (by decide) ?_
      intro v132 h133
      refine q_icmp_eq 23 dX12_readEvent_15 (by decide) (fun h134 => ?_) (fun h134 => ?_)
      · skip
        exfalso; exact om_f20c1bb1 pre18 kd66 h133 h134
      · skip
        refine tr_iload_n dX12_readEvent_18 rfl ?_
        refine q_iconst dX12_readEvent_19 (by decide) ?_
        intro v135 h136
        refine q_icmp_ne 40 dX12_readEvent_20 (by decide) (fun h137 => ?_) (fun h137 => ?_)
        · skip
          refine q_bipush dX12_readEvent_40 (by decide +kernel) ?_
          intro v138 h139
          refine tr_istore_n dX12_readEvent_42 (by decide) (by decide) ?_
          refine tr_aload_n dX12_readEvent_43 rfl ?_
          refine q_iconst dX12_readEvent_44 (by decide) ?_
          intro v140 h141
          refine tr_aload_n dX12_readEvent_45 rfl ?_
          refine tr_getR dX12_readEvent_46 fl12_188 (kR15 hS77.1 ta0) d2 ?_
          refine q_getI dX12_readEvent_49 fl12_192 (kR14 hS77.1 ta1) ((hS77.cell ta1 (by decide +kernel)).trans c30) ?_
          refine q_iconst dX12_readEvent_52 (by decide) ?_
          intro v142 h143
          refine q_isubE dX12_readEvent_53 (by intro j1 j2 j3 j4; exact om_6479810f b31.2 b31.1 p32 w123 h143) ?_
          intro v144 h145
          refine q_callVi hE (M' := mX12_readWhole) (as := [_, _]) dX12_readEvent_54 lk12_161 inX12_readWhole seX12_readWhole myX12_readWhole (by decide) ⟨by decide, by decide⟩ rfl (kR15 hS77.1 ta0) (Nat.le_of_ble_eq_true rfl) rfl rfl (by decide) (by decide) (fk_X12_readWhole hS77.1 (gB) ((tkN gB gs)) ta0 (TxA.kp hT hS77 ta0 rfl rfl rfl (by decide +kernel) (by decide +kernel)) (by (try rw [c105]); first | done | with_reducible assumption | omega) (by (try rw [c105]); first | done | with_reducible assumption | omega) (by (try rw [c108]); first | done | with_reducible assumption | omega) (by (try rw [c111]); first | done | with_reducible assumption | omega) (by (try rw [c113]); first | done | assumption) (by (try rw [c115]); first | done | assumption) (by (try rw [c117]); first | done | assumption) (by (try rw [((hS77.cell ta0 (by decide +kernel)).trans c26)]); first | done | with_reducible assumption | omega)) ?_
          rintro v151 cn' K' N' I146 R147 L148 ⟨rfl, rfl, rfl, rfl, g149, dj152, -⟩
          have hM153 : NmM I146 R0 L71 a1 gQ := NmM.kpS hM101 g149 hS77.1 ta1 (by decide +kernel) (by decide +kernel)
          have hS154 := hS77.tr g149 (by decide +kernel) (by decide +kernel)
          have c155 : I146 a1 2 = v37 := (g149.cell ta1 (by decide +kernel)).trans c78
          have hO156 : FrO 14 a1 T I0 I146 := hO79.st g149 (by decide +kernel)
          rcases dj152 with ⟨p157, p158, p159, p160, p161, p162, p163, p164, p165, p166, p167, p168, gl169, -⟩ | ⟨p170, p171, p172, p173, p174, -⟩ | ⟨p175, p176, p177, p178, p179, p180, -⟩
          · skip
            have hL181 := hL100.tr gl169 (by decide +kernel)
            have hM182 : NmM I146 R0 L148 a1 gQ := NmM.kpL hM153 gl169 hS154.1 ta1 (by decide +kernel)
            obtain ⟨v183, c184⟩ : ∃ v, I146 a0 13 = v := ⟨_, rfl⟩
            rw [c184] at p161
            rw [c103] at p161
            obtain ⟨v185, c186⟩ : ∃ v, I146 a0 9 = v := ⟨_, rfl⟩
            have b187 := iv15_9 hS154.1 ta0 c186
            rw [c186] at p162
            rw [c186] at p163
            obtain ⟨v188, c189⟩ : ∃ v, I146 a0 10 = v := ⟨_, rfl⟩
            have b190 := iv15_10 hS154.1 ta0 c189
            rw [c189] at p164
            obtain ⟨v191, c192⟩ : ∃ v, I146 a0 11 = v := ⟨_, rfl⟩
            rw [c192] at p165
            obtain ⟨y193, c194⟩ : ∃ v, L148 a0 15 = v := ⟨_, rfl⟩
            rw [c194] at p166
            obtain ⟨v195, c196⟩ : ∃ v, I146 a0 12 = v := ⟨_, rfl⟩
            rw [c196] at p167
            obtain ⟨v197, c198⟩ : ∃ v, I146 a0 8 = v := ⟨_, rfl⟩
            have b199 := iv15_8 hS154.1 ta0 c198
            rw [c198] at p168
            replace hF := hF.neg (by exact om_10ed11b5 p158)
            replace hP := hP.neg (by exact om_10ed11b5 p158)
            replace hF := hF.neg (by exact om_4062d996 p32 w123 h141 h143 h145 p159 p160)
            replace hP := hP.neg (by exact om_4062d996 p32 w123 h141 h143 h145 p159 p160)
            refine tr_istore_n dX12_readEvent_57 (by decide) (by decide) ?_
            refine tr_iload_n dX12_readEvent_58 rfl ?_
            refine q_iconst dX12_readEvent_59 (by decide) ?_
            intro v200 h201
            refine q_icmp_ne 69 dX12_readEvent_60 (by decide) (fun h202 => ?_) (fun h202 => ?_)
            · skip
              refine tr_aload_n dX12_readEvent_69 rfl ?_
              refine tr_ldcwS dX12_readEvent_70 ld12_272 ?_
              refine tr_iload_n dX12_readEvent_73 rfl ?_
              refine q_iconst dX12_readEvent_74 (by decide) ?_
              intro v203 h204
              refine q_iaddE dX12_readEvent_75 (by intro j1 j2 j3 j4; exact om_5e7b6990 b31.2 b31.1 p32 w123 h141 h143 h145 p157 p159 p160 h204 j2) ?_
              intro v205 h206
              refine tr_aload_n dX12_readEvent_76 rfl ?_
              refine tr_getR dX12_readEvent_77 fl12_188 (kR15 hS154.1 ta0) d2 ?_
              refine q_getI dX12_readEvent_80 fl12_192 (kR14 hS154.1 ta1) ((hS154.cell ta1 (by decide +kernel)).trans c30) ?_
              refine q_callVi hE (M' := mX12_readPart) (as := [_, _, _]) dX12_readEvent_83 lk12_249 inX12_readPart seX12_readPart myX12_readPart (by decide) ⟨by decide, by decide⟩ rfl (kR15 hS154.1 ta0) (Nat.le_of_ble_eq_true rfl) rfl rfl (by decide) (by decide) (fk_X12_readPart hS154.1 (gB) ((tkN gB (tkN gB gs))) ta0 (by decide) (TxA.kp hT hS154 ta0 rfl rfl rfl (by decide +kernel) (by decide +kernel)) (by (try rw [c186]); first | done | with_reducible assumption | omega) (by (try rw [c186]); first | done | with_reducible assumption | omega) (by (try rw [c189]); first | done | with_reducible assumption | omega) (by (try rw [c192]); first | done | with_reducible assumption | omega) (by (try rw [c194]); first | done | assumption) (by (try rw [c196]); first | done | assumption) (by (try rw [c198]); first | done | assumption) (by (try rw [((hS154.cell ta0 (by decide +kernel)).trans c26)]); first | done | with_reducible assumption | omega)) ?_
              rintro v212 cn' K' N' I207 R208 L209 ⟨rfl, rfl, rfl, rfl, g210, dj213, -⟩
              (try rw [pk_25] at dj213)
              have hM214 : NmM I207 R0 L148 a1 gQ := NmM.kpS hM182 g210 hS154.1 ta1 (by decide +kernel) (by decide +kernel)
              have hS215 := hS154.tr g210 (by decide +kernel) (by decide +kernel)
              have c216 : I207 a1 2 = v37 := (g210.cell ta1 (by decide +kernel)).trans c155
              have hO217 : FrO 14 a1 T I0 I207 := hO156.st g210 (by decide +kernel)
              rcases dj213 with ⟨p218, p219, p220, p221, p222, p223, p224, p225, p226, p227, p228, p229, p230, p231, gl232, -⟩ | ⟨p233, p234, p235, p236, p237, -⟩ | ⟨p238, p239, p240, p241, p242, p243, p244, -⟩ | ⟨p245, p246, p247, p248, p249, p250, p251, p252, -⟩
              · skip
                have hL253 := hL181.tr gl232 (by decide +kernel)
                have hM254 : NmM I207 R0 L209 a1 gQ := NmM.kpL hM214 gl232 hS215.1 ta1 (by decide +kernel)
                obtain ⟨v255, c256⟩ : ∃ v, I207 a0 13 = v := ⟨_, rfl⟩
                rw [c256] at p224
                rw [c184] at p224
                obtain ⟨v257, c258⟩ : ∃ v, I207 a0 9 = v := ⟨_, rfl⟩
                have b259 := iv15_9 hS215.1 ta0 c258
                rw [c258] at p225
                rw [c258] at p226
                obtain ⟨v260, c261⟩ : ∃ v, I207 a0 10 = v := ⟨_, rfl⟩
                have b262 := iv15_10 hS215.1 ta0 c261
                rw [c261] at p227
                obtain ⟨v263, c264⟩ : ∃ v, I207 a0 11 = v := ⟨_, rfl⟩
                rw [c264] at p228
                obtain ⟨y265, c266⟩ : ∃ v, L209 a0 15 = v := ⟨_, rfl⟩
                rw [c266] at p229
                obtain ⟨v267, c268⟩ : ∃ v, I207 a0 12 = v := ⟨_, rfl⟩
                rw [c268] at p230
                obtain ⟨v269, c270⟩ : ∃ v, I207 a0 8 = v := ⟨_, rfl⟩
                have b271 := iv15_8 hS215.1 ta0 c270
                rw [c270] at p231
                replace hF := hF.neg (by exact om_04941ac6 p219 p220)
                replace hP := hP.neg (by exact om_04941ac6 p219 p220)
                replace hF := hF.neg (by exact om_10ed11b5 p221)
                replace hP := hP.neg (by exact om_10ed11b5 p221)
                replace hF := hF.neg (by exact om_11a1fbca p32 w123 h143 h145 p157 h204 h206 p222 p223)
                replace hP := hP.neg (by exact om_11a1fbca p32 w123 h143 h145 p157 h204 h206 p222 p223)
                refine tr_istore dX12_readEvent_86 (by decide) (by decide) ?_
                refine tr_aload_n dX12_readEvent_88 rfl ?_
                refine q_getI dX12_readEvent_89 fl12_99 (kR15 hS215.1 ta0) c258 ?_
                refine q_iconst dX12_readEvent_92 (by decide) ?_
                intro v272 h273
                refine q_icmp_ne 97 dX12_readEvent_93 (by decide) (fun h274 => ?_) (fun h274 => ?_)
                · skip
                  refine tr_aload_n dX12_readEvent_97 rfl ?_
                  refine tr_getR dX12_readEvent_98 fl12_188 (kR15 hS215.1 ta0) d2 ?_
                  refine q_getI dX12_readEvent_101 fl12_265 (kR14 hS215.1 ta1) c216 ?_
                  refine tr_istore dX12_readEvent_104 (by decide) (by decide) ?_
                  refine tr_aload_n dX12_readEvent_106 rfl ?_
                  refine tr_getR dX12_readEvent_107 fl12_188 (kR15 hS215.1 ta0) d2 ?_
                  obtain ⟨a275, d276, ta275⟩ := rf14_11 hW0 ta1
                  refine tr_getR dX12_readEvent_110 fl12_274 (kR14 hS215.1 ta1) d276 ?_
                  refine tr_iload dX12_readEvent_113 rfl ?_
                  refine tr_iload_n dX12_readEvent_115 rfl ?_
                  refine q_iastX dX12_readEvent_116 (kR54 hS215.1 ta275) (ti_in (nR54 hS215.1 ta275) (by exact om_b14f9e1e b39.2 b39.1 p40 w125) (by exact om_23fe4ccc pre18 b31.2 b31.1 p32 b39.2 b39.1 p40 kd66 h68 p80 p81 w123 w125 h133 h134 h136 h137 h143 h145 h201 h202 p226 p225 b259.1 h273 h274)) hS215 ta275 (by rfl) (hS215.1.putK (m := a1) ta1 d276 (by rw [c216]; exact Int.le_of_eq (ti_nat (by exact om_b14f9e1e b39.2 b39.1 p40 w125)).symm)) ?_
                  intro I281 hS282 e283 f284
                  have c285 : I281 a1 2 = v37 := (f284 _ _ (fun q => by have z := ta1; rw [q.1, ta275] at z; exact absurd z (by decide))).trans c216
                  have c286 : I281 a0 13 = v255 := (f284 _ _ (fun q => by have z := ta0; rw [q.1, ta275] at z; exact absurd z (by decide))).trans c256
                  have c287 : I281 a0 9 = v257 := (f284 _ _ (fun q => by have z := ta0; rw [q.1, ta275] at z; exact absurd z (by decide))).trans c258
                  have c288 : I281 a0 10 = v260 := (f284 _ _ (fun q => by have z := ta0; rw [q.1, ta275] at z; exact absurd z (by decide))).trans c261
                  have c289 : I281 a0 11 = v263 := (f284 _ _ (fun q => by have z := ta0; rw [q.1, ta275] at z; exact absurd z (by decide))).trans c264
                  have c290 : I281 a0 12 = v267 := (f284 _ _ (fun q => by have z := ta0; rw [q.1, ta275] at z; exact absurd z (by decide))).trans c268
                  have c291 : I281 a0 8 = v269 := (f284 _ _ (fun q => by have z := ta0; rw [q.1, ta275] at z; exact absurd z (by decide))).trans c270
                  have hO292 : FrO 14 a1 T I0 I281 := hO217.put f284 ta275 (Or.inl (by decide))
                  have hM293 : NmM I281 R0 L209 a1 gQ := NmM.kp1 hM254 f284 ta275 rfl rfl hS215.1 ta1
                  refine tr_aload_n dX12_readEvent_117 rfl ?_
                  refine tr_getR dX12_readEvent_118 fl12_188 (kR15 hS282.1 ta0) d2 ?_
                  obtain ⟨a294, d295, ta294⟩ := rf14_12 hW0 ta1
                  refine tr_getR dX12_readEvent_121 fl12_277 (kR14 hS282.1 ta1) d295 ?_
                  refine tr_iload dX12_readEvent_124 rfl ?_
                  refine tr_iload_n dX12_readEvent_126 rfl ?_
                  refine q_iastX dX12_readEvent_127 (kR55 hS282.1 ta294) (ti_in (nR55 hS282.1 ta294) (by exact om_b14f9e1e b39.2 b39.1 p40 w125) (by exact om_23fe4ccc pre18 b31.2 b31.1 p32 b39.2 b39.1 p40 kd66 h68 p80 p81 w123 w125 h133 h134 h136 h137 h143 h145 h201 h202 p226 p225 b259.1 h273 h274)) hS282 ta294 (by rfl) (hS282.1.putH (m := a1) ta1 d295 (by rw [c285]; exact Int.le_of_eq (ti_nat (by exact om_b14f9e1e b39.2 b39.1 p40 w125)).symm) (by exact om_9bdeced0 h139)) ?_
                  intro I300 hS301 e302 f303
                  have c304 : I300 a1 2 = v37 := (f303 _ _ (fun q => by have z := ta1; rw [q.1, ta294] at z; exact absurd z (by decide))).trans c285
                  have c305 : I300 a0 13 = v255 := (f303 _ _ (fun q => by have z := ta0; rw [q.1, ta294] at z; exact absurd z (by decide))).trans c286
                  have c306 : I300 a0 9 = v257 := (f303 _ _ (fun q => by have z := ta0; rw [q.1, ta294] at z; exact absurd z (by decide))).trans c287
                  have c307 : I300 a0 10 = v260 := (f303 _ _ (fun q => by have z := ta0; rw [q.1, ta294] at z; exact absurd z (by decide))).trans c288
                  have c308 : I300 a0 11 = v263 := (f303 _ _ (fun q => by have z := ta0; rw [q.1, ta294] at z; exact absurd z (by decide))).trans c289
                  have c309 : I300 a0 12 = v267 := (f303 _ _ (fun q => by have z := ta0; rw [q.1, ta294] at z; exact absurd z (by decide))).trans c290
                  have c310 : I300 a0 8 = v269 := (f303 _ _ (fun q => by have z := ta0; rw [q.1, ta294] at z; exact absurd z (by decide))).trans c291
                  have c311 : I300 a275 v37.toNatClampNeg = x1 := (f303 _ _ (fun q => by have z := ta275; rw [q.1, ta294] at z; exact absurd z (by decide))).trans e283
                  have hO312 : FrO 14 a1 T I0 I300 := hO292.put f303 ta294 (Or.inl (by decide))
                  have hM313 : NmM I300 R0 L209 a1 gQ := NmM.kp1 hM293 f303 ta294 rfl rfl hS282.1 ta1
                  refine tr_aload_n dX12_readEvent_128 rfl ?_
                  refine tr_getR dX12_readEvent_129 fl12_188 (kR15 hS301.1 ta0) d2 ?_
                  obtain ⟨a314, d315, ta314⟩ := rf14_13 hW0 ta1
                  refine tr_getR dX12_readEvent_132 fl12_280 (kR14 hS301.1 ta1) d315 ?_
                  refine tr_iload dX12_readEvent_135 rfl ?_
                  refine tr_iload_n dX12_readEvent_137 rfl ?_
                  refine q_iast dX12_readEvent_138 (kR56 hS301.1 ta314) (ti_in (nR56 hS301.1 ta314) (by exact om_b14f9e1e b39.2 b39.1 p40 w125) (by exact om_23fe4ccc pre18 b31.2 b31.1 p32 b39.2 b39.1 p40 kd66 h68 p80 p81 w123 w125 h133 h134 h136 h137 h143 h145 h201 h202 p226 p225 b259.1 h273 h274)) hS301 ta314 (by show (0 : Int) ≤ v151.toInt ∧ v151.toInt ≤ (240 : Int); exact om_0f0d8164 b31.2 b31.1 p32 w123 h141 h143 h145 p157 p159 p160 h204 h206) rfl (by rfl) ?_
                  intro I316 hS317 e319 f318
                  have c320 : I316 a1 2 = v37 := (f318 _ _ (fun q => by have z := ta1; rw [q.1, ta314] at z; exact absurd z (by decide))).trans c304
                  have c321 : I316 a0 13 = v255 := (f318 _ _ (fun q => by have z := ta0; rw [q.1, ta314] at z; exact absurd z (by decide))).trans c305
                  have c322 : I316 a0 9 = v257 := (f318 _ _ (fun q => by have z := ta0; rw [q.1, ta314] at z; exact absurd z (by decide))).trans c306
                  have c323 : I316 a0 10 = v260 := (f318 _ _ (fun q => by have z := ta0; rw [q.1, ta314] at z; exact absurd z (by decide))).trans c307
                  have c324 : I316 a0 11 = v263 := (f318 _ _ (fun q => by have z := ta0; rw [q.1, ta314] at z; exact absurd z (by decide))).trans c308
                  have c325 : I316 a0 12 = v267 := (f318 _ _ (fun q => by have z := ta0; rw [q.1, ta314] at z; exact absurd z (by decide))).trans c309
                  have c326 : I316 a0 8 = v269 := (f318 _ _ (fun q => by have z := ta0; rw [q.1, ta314] at z; exact absurd z (by decide))).trans c310
                  have c327 : I316 a275 v37.toNatClampNeg = x1 := (f318 _ _ (fun q => by have z := ta275; rw [q.1, ta314] at z; exact absurd z (by decide))).trans c311
                  have c328 : I316 a294 v37.toNatClampNeg = v138 := (f318 _ _ (fun q => by have z := ta294; rw [q.1, ta314] at z; exact absurd z (by decide))).trans e302
                  have hO329 : FrO 14 a1 T I0 I316 := hO312.put f318 ta314 (Or.inl (by decide))
                  have hM330 : NmM I316 R0 L209 a1 gQ := NmM.kp1 hM313 f318 ta314 rfl rfl hS301.1 ta1
                  refine tr_aload_n dX12_readEvent_139 rfl ?_
                  refine tr_getR dX12_readEvent_140 fl12_188 (kR15 hS317.1 ta0) d2 ?_
                  obtain ⟨a331, d332, ta331⟩ := rf14_14 hW0 ta1
                  refine tr_getR dX12_readEvent_143 fl12_283 (kR14 hS317.1 ta1) d332 ?_
                  refine tr_iload dX12_readEvent_146 rfl ?_
                  refine tr_iload dX12_readEvent_148 rfl ?_
                  refine q_iast dX12_readEvent_150 (kR57 hS317.1 ta331) (ti_in (nR57 hS317.1 ta331) (by exact om_b14f9e1e b39.2 b39.1 p40 w125) (by exact om_23fe4ccc pre18 b31.2 b31.1 p32 b39.2 b39.1 p40 kd66 h68 p80 p81 w123 w125 h133 h134 h136 h137 h143 h145 h201 h202 p226 p225 b259.1 h273 h274)) hS317 ta331 (by show (0 : Int) ≤ v212.toInt ∧ v212.toInt ≤ (240 : Int); exact om_6c1edee8 b31.2 b31.1 p32 w123 h141 h143 h145 p157 p159 h204 h206 p218 p222 p223) rfl (by rfl) ?_
                  intro I333 hS334 e336 f335
                  have c337 : I333 a1 2 = v37 := (f335 _ _ (fun q => by have z := ta1; rw [q.1, ta331] at z; exact absurd z (by decide))).trans c320
                  have c338 : I333 a0 13 = v255 := (f335 _ _ (fun q => by have z := ta0; rw [q.1, ta331] at z; exact absurd z (by decide))).trans c321
                  have c339 : I333 a0 9 = v257 := (f335 _ _ (fun q => by have z := ta0; rw [q.1, ta331] at z; exact absurd z (by decide))).trans c322
                  have c340 : I333 a0 10 = v260 := (f335 _ _ (fun q => by have z := ta0; rw [q.1, ta331] at z; exact absurd z (by decide))).trans c323
                  have c341 : I333 a0 11 = v263 := (f335 _ _ (fun q => by have z := ta0; rw [q.1, ta331] at z; exact absurd z (by decide))).trans c324
                  have c342 : I333 a0 12 = v267 := (f335 _ _ (fun q => by have z := ta0; rw [q.1, ta331] at z; exact absurd z (by decide))).trans c325
                  have c343 : I333 a0 8 = v269 := (f335 _ _ (fun q => by have z := ta0; rw [q.1, ta331] at z; exact absurd z (by decide))).trans c326
                  have c344 : I333 a275 v37.toNatClampNeg = x1 := (f335 _ _ (fun q => by have z := ta275; rw [q.1, ta331] at z; exact absurd z (by decide))).trans c327
                  have c345 : I333 a294 v37.toNatClampNeg = v138 := (f335 _ _ (fun q => by have z := ta294; rw [q.1, ta331] at z; exact absurd z (by decide))).trans c328
                  have hO346 : FrO 14 a1 T I0 I333 := hO329.put f335 ta331 (Or.inl (by decide))
                  have hM347 : NmM I333 R0 L209 a1 gQ := NmM.kp1 hM330 f335 ta331 rfl rfl hS317.1 ta1
                  refine tr_aload_n dX12_readEvent_151 rfl ?_
                  refine tr_getR dX12_readEvent_152 fl12_188 (kR15 hS334.1 ta0) d2 ?_
                  refine tr_dup dX12_readEvent_155 rfl ?_
                  refine q_getI dX12_readEvent_156 fl12_265 (kR14 hS334.1 ta1) c337 ?_
                  refine q_iconst dX12_readEvent_159 (by decide) ?_
                  intro v348 h349
                  refine q_iaddE dX12_readEvent_160 (by intro j1 j2 j3 j4; exact om_a5745fee b39.2 b39.1 p40 w125 h349) ?_
                  intro v350 h351
                  refine q_putX dX12_readEvent_161 fl12_265 (kR14 hS334.1 ta1) (Or.inl rfl) hS334 ta1 (by decide +kernel) (hS334.1.putE (i := v37.toNatClampNeg) ta1 d276 d295 (by rw [c337]; exact (ti_nat (by exact om_74bf4760 b39.2 b39.1 p40 w125 h349 h351)).symm) (by rw [c337]; exact om_5a680f8c p40 w125 h349 h351) (by exact om_9c51eafe pre18 b31.2 b31.1 p32 b39.2 b39.1 p40 kd66 h68 p80 p81 w123 w125 h133 h134 h136 h137 h143 h145 h201 h202 p226 p225 b259.1 h273 h274 h349 h351) (by rw [c344, c345]; exact om_e733af13 pre18 kd66)) ?_
                  intro I352 hS353 e354 f355
                  have c356 : I352 a0 13 = v255 := (f355 _ _ (fun q => absurd q.2 (by decide))).trans c338
                  have c357 : I352 a0 9 = v257 := (f355 _ _ (fun q => absurd q.2 (by decide))).trans c339
                  have c358 : I352 a0 10 = v260 := (f355 _ _ (fun q => absurd q.2 (by decide))).trans c340
                  have c359 : I352 a0 11 = v263 := (f355 _ _ (fun q => absurd q.2 (by decide))).trans c341
                  have c360 : I352 a0 12 = v267 := (f355 _ _ (fun q => absurd q.2 (by decide))).trans c342
                  have c361 : I352 a0 8 = v269 := (f355 _ _ (fun q => absurd q.2 (by decide))).trans c343
                  have c362 : I352 a275 v37.toNatClampNeg = x1 := (f355 _ _ (fun q => by have z := ta275; rw [q.1, ta1] at z; exact absurd z (by decide))).trans c344
                  have c363 : I352 a294 v37.toNatClampNeg = v138 := (f355 _ _ (fun q => by have z := ta294; rw [q.1, ta1] at z; exact absurd z (by decide))).trans c345
                  have hO364 : FrO 14 a1 T I0 I352 := hO346.put f355 ta1 (Or.inr rfl)
                  have hM365 : NmM I352 R0 L209 a1 gQ := NmM.kp1 hM347 f355 ta1 rfl rfl hS334.1 ta1
                  have eF := hF.eq
                  have eP := hP.eq
                  have es366 := evS_c0 (B := gB) (Q := gQ) (k := srt gB gs) (s := (tkN gB gs)) (by exact om_61d53325 pre18 kd66) (by exact om_e8b092fc pre18 kd66)
                  obtain ⟨v367, c368⟩ : ∃ v, I352 a0 14 = v := ⟨_, rfl⟩
                  exact tr_vret hZ dX12_readEvent_164 rfl (by decide) (by decide) ⟨rfl, rfl, rfl, rfl, rfl, hS353, (fun dr hd => (Option.some.inj (d2.symm.trans hd)) ▸ hO364), (Or.inl ⟨(by (try rw [w122]); (try rw [es366]); first | done | with_reducible assumption | omega), (fun q0 z0 => by obtain rfl := Option.some.inj ((d2).symm.trans z0); (try rw [w122]); (try rw [es366]); (try rw [((hS353.cell ta1 (by decide +kernel)).trans c30)]); first | done | with_reducible assumption | exact om_2757374c p32 w123), (fun q0 z0 => by obtain rfl := Option.some.inj ((d2).symm.trans z0); (try rw [w122]); (try rw [es366]); (try rw [((hS353.cell ta1 (by decide +kernel)).trans c34)]); first | done | with_reducible assumption | exact om_2757374c p36 w124), (fun q0 z0 => by obtain rfl := Option.some.inj ((d2).symm.trans z0); (try rw [w122]); (try rw [es366]); (try rw [e354]); first | done | with_reducible assumption | exact om_7149e5be p40 w125 h349 h351), (fun q0 z0 => by obtain rfl := Option.some.inj ((d2).symm.trans z0); (try rw [w122]); (try rw [es366]); (try rw [((hS353.cell ta1 (by decide +kernel)).trans c42)]); first | done | with_reducible assumption | exact om_2757374c p44 w126), (fun q0 z0 => by obtain rfl := Option.some.inj ((d2).symm.trans z0); (try rw [w122]); (try rw [es366]); (try rw [((hS353.cell ta1 (by decide +kernel)).trans c46)]); first | done | with_reducible assumption | exact om_2757374c p48 w127), (fun q0 z0 => by obtain rfl := Option.some.inj ((d2).symm.trans z0); (try rw [w122]); (try rw [es366]); (try rw [((hS353.cell ta1 (by decide +kernel)).trans c50)]); first | done | with_reducible assumption | exact om_2757374c p52 w128), (fun q0 z0 => by obtain rfl := Option.some.inj ((d2).symm.trans z0); (try rw [w122]); (try rw [es366]); (try rw [((hS353.cell ta1 (by decide +kernel)).trans c54)]); first | done | with_reducible assumption | exact om_2757374c p56 w129), (fun q0 z0 => by obtain rfl := Option.some.inj ((d2).symm.trans z0); (try rw [w122]); (try rw [es366]); (try rw [((hS353.cell ta1 (by decide +kernel)).trans c58)]); first | done | with_reducible assumption | exact om_2757374c p60 w131), (by (try rw [w122]); (try rw [es366]); (try rw [c356]); (try rw [c65]); first | done | with_reducible assumption | exact om_1c22ab7e p82 p161 p224), (by (try rw [w122]); (try rw [es366]); (try rw [c357]); first | done | with_reducible assumption | omega), (by (try rw [w122]); (try rw [es366]); (try rw [c357]); first | done | with_reducible assumption | omega), (by (try rw [w122]); (try rw [es366]); (try rw [c358]); first | done | with_reducible assumption | omega), (by (try rw [w122]); (try rw [es366]); (try rw [c359]); first | done | with_reducible assumption | omega), (by (try rw [w122]); (try rw [es366]); (try rw [c266]); first | done | assumption), (by (try rw [w122]); (try rw [es366]); (try rw [c360]); first | done | assumption), (by (try rw [w122]); (try rw [es366]); (try rw [c361]); first | done | assumption), hL253, (fun b hb => (Option.some.inj (d2.symm.trans hb)) ▸ NmM.ln (NmM.bd (k := srt gB gs) hM365 (by exact om_e7eda1ab pre18 kd66) (by exact om_0dac72c5 pre18 kd66)) rfl), trivial⟩), trivial⟩
                · skip
                  exfalso; exact om_99cda0b7 p226 p225 b259.1 h273 h274
              · skip
                obtain ⟨v369, c370⟩ : ∃ v, I207 a0 9 = v := ⟨_, rfl⟩
                have b371 := iv15_9 hS215.1 ta0 c370
                rw [c370] at p235
                obtain ⟨v372, c373⟩ : ∃ v, I207 a0 13 = v := ⟨_, rfl⟩
                rw [c373] at p236
                obtain ⟨v374, c375⟩ : ∃ v, I207 a0 14 = v := ⟨_, rfl⟩
                rw [c375] at p237
                replace hF := hF.pos (by exact om_5c733ef2 p234)
                replace hP := hP.pos (by exact om_5c733ef2 p234)
                refine tr_istore dX12_readEvent_86 (by decide) (by decide) ?_
                refine sf_oE88 hE hZ hS215.1 (gB) ta0 (by (try rw [c370]); first | done | with_reducible assumption | omega) ⟨_, d2⟩ rfl rfl rfl rfl rfl ?_
                rintro I376 R377 L378 ⟨g379, p380, p381, p382, -⟩
                obtain rfl : R0 = R377 := funext fun a => funext fun j => (g379.2.2 a j (wm_no rfl)).symm
                have hS383 := hS215.tr g379 (by decide +kernel) (by decide +kernel)
                have c384 : I376 a1 2 = v37 := (g379.cell ta1 (by decide +kernel)).trans c216
                have c385 : I376 a0 9 = v369 := (g379.cell ta0 (by decide +kernel)).trans c370
                have c386 : I376 a0 13 = v372 := (g379.cell ta0 (by decide +kernel)).trans c373
                have c387 : I376 a0 14 = v374 := (g379.cell ta0 (by decide +kernel)).trans c375
                have hO388 : FrO 14 a1 T I0 I376 := hO217.st g379 (by decide +kernel)
                rw [c385] at p380
                rw [c386] at p381
                rw [c373] at p381
                rw [c387] at p382
                rw [c375] at p382
                have eF := hF.eq
                have eP := hP.eq
                obtain ⟨v389, c390⟩ : ∃ v, I376 a0 10 = v := ⟨_, rfl⟩
                have b391 := iv15_10 hS383.1 ta0 c390
                obtain ⟨v392, c393⟩ : ∃ v, I376 a0 11 = v := ⟨_, rfl⟩
                obtain ⟨y394, c395⟩ : ∃ v, L378 a0 15 = v := ⟨_, rfl⟩
                obtain ⟨v396, c397⟩ : ∃ v, I376 a0 12 = v := ⟨_, rfl⟩
                obtain ⟨v398, c399⟩ : ∃ v, I376 a0 8 = v := ⟨_, rfl⟩
                have b400 := iv15_8 hS383.1 ta0 c399
                exact ⟨rfl, rfl, rfl, rfl, rfl, hS383, (fun dr hd => (Option.some.inj (d2.symm.trans hd)) ▸ hO388), (Or.inr (⟨(by first | done | with_reducible assumption | exact om_7fac24c5 eF), (by (try rw [c385]); first | done | with_reducible assumption | omega), (by (try rw [c386]); first | done | with_reducible assumption | exact om_3345b898 p236 eF), (by (try rw [c387]); first | done | with_reducible assumption | exact om_2757374c p237 eP), trivial⟩)), trivial⟩
              · skip
                obtain ⟨v401, c402⟩ : ∃ v, I207 a0 9 = v := ⟨_, rfl⟩
                have b403 := iv15_9 hS215.1 ta0 c402
                rw [c402] at p242
                obtain ⟨v404, c405⟩ : ∃ v, I207 a0 13 = v := ⟨_, rfl⟩
                rw [c405] at p243
                obtain ⟨v406, c407⟩ : ∃ v, I207 a0 14 = v := ⟨_, rfl⟩
                rw [c407] at p244
                replace hF := hF.neg (by exact om_04941ac6 p239 p240)
                replace hP := hP.neg (by exact om_04941ac6 p239 p240)
                replace hF := hF.pos (by exact om_73cc8e29 p241)
                replace hP := hP.pos (by exact om_73cc8e29 p241)
                refine tr_istore dX12_readEvent_86 (by decide) (by decide) ?_
                refine sf_oE88 hE hZ hS215.1 (gB) ta0 (by (try rw [c402]); first | done | with_reducible assumption | omega) ⟨_, d2⟩ rfl rfl rfl rfl rfl ?_
                rintro I408 R409 L410 ⟨g411, p412, p413, p414, -⟩
                obtain rfl : R0 = R409 := funext fun a => funext fun j => (g411.2.2 a j (wm_no rfl)).symm
                have hS415 := hS215.tr g411 (by decide +kernel) (by decide +kernel)
                have c416 : I408 a1 2 = v37 := (g411.cell ta1 (by decide +kernel)).trans c216
                have c417 : I408 a0 9 = v401 := (g411.cell ta0 (by decide +kernel)).trans c402
                have c418 : I408 a0 13 = v404 := (g411.cell ta0 (by decide +kernel)).trans c405
                have c419 : I408 a0 14 = v406 := (g411.cell ta0 (by decide +kernel)).trans c407
                have hO420 : FrO 14 a1 T I0 I408 := hO217.st g411 (by decide +kernel)
                rw [c417] at p412
                rw [c418] at p413
                rw [c405] at p413
                rw [c419] at p414
                rw [c407] at p414
                have eF := hF.eq
                have eP := hP.eq
                obtain ⟨v421, c422⟩ : ∃ v, I408 a0 10 = v := ⟨_, rfl⟩
                have b423 := iv15_10 hS415.1 ta0 c422
                obtain ⟨v424, c425⟩ : ∃ v, I408 a0 11 = v := ⟨_, rfl⟩
                obtain ⟨y426, c427⟩ : ∃ v, L410 a0 15 = v := ⟨_, rfl⟩
                obtain ⟨v428, c429⟩ : ∃ v, I408 a0 12 = v := ⟨_, rfl⟩
                obtain ⟨v430, c431⟩ : ∃ v, I408 a0 8 = v := ⟨_, rfl⟩
                have b432 := iv15_8 hS415.1 ta0 c431
                exact ⟨rfl, rfl, rfl, rfl, rfl, hS415, (fun dr hd => (Option.some.inj (d2.symm.trans hd)) ▸ hO420), (Or.inr (⟨(by first | done | with_reducible assumption | exact om_7fac24c5 eF), (by (try rw [c417]); first | done | with_reducible assumption | omega), (by (try rw [c418]); first | done | with_reducible assumption | exact om_3345b898 p243 eF), (by (try rw [c419]); first | done | with_reducible assumption | exact om_2757374c p244 eP), trivial⟩)), trivial⟩
              · skip
                obtain ⟨v433, c434⟩ : ∃ v, I207 a0 9 = v := ⟨_, rfl⟩
                have b435 := iv15_9 hS215.1 ta0 c434
                rw [c434] at p250
                obtain ⟨v436, c437⟩ : ∃ v, I207 a0 13 = v := ⟨_, rfl⟩
                rw [c437] at p251
                obtain ⟨v438, c439⟩ : ∃ v, I207 a0 14 = v := ⟨_, rfl⟩
                rw [c439] at p252
                replace hF := hF.neg (by exact om_04941ac6 p246 p247)
                replace hP := hP.neg (by exact om_04941ac6 p246 p247)
                replace hF := hF.neg (by exact om_10ed11b5 p248)
                replace hP := hP.neg (by exact om_10ed11b5 p248)
                replace hF := hF.pos (by exact om_ecc016f6 p32 w123 h143 h145 p157 h204 h206 p249)
                replace hP := hP.pos (by exact om_ecc016f6 p32 w123 h143 h145 p157 h204 h206 p249)
                refine tr_istore dX12_readEvent_86 (by decide) (by decide) ?_
                refine sf_oE88 hE hZ hS215.1 (gB) ta0 (by (try rw [c434]); first | done | with_reducible assumption | omega) ⟨_, d2⟩ rfl rfl rfl rfl rfl ?_
                rintro I440 R441 L442 ⟨g443, p444, p445, p446, -⟩
                obtain rfl : R0 = R441 := funext fun a => funext fun j => (g443.2.2 a j (wm_no rfl)).symm
                have hS447 := hS215.tr g443 (by decide +kernel) (by decide +kernel)
                have c448 : I440 a1 2 = v37 := (g443.cell ta1 (by decide +kernel)).trans c216
                have c449 : I440 a0 9 = v433 := (g443.cell ta0 (by decide +kernel)).trans c434
                have c450 : I440 a0 13 = v436 := (g443.cell ta0 (by decide +kernel)).trans c437
                have c451 : I440 a0 14 = v438 := (g443.cell ta0 (by decide +kernel)).trans c439
                have hO452 : FrO 14 a1 T I0 I440 := hO217.st g443 (by decide +kernel)
                rw [c449] at p444
                rw [c450] at p445
                rw [c437] at p445
                rw [c451] at p446
                rw [c439] at p446
                have eF := hF.eq
                have eP := hP.eq
                obtain ⟨v453, c454⟩ : ∃ v, I440 a0 10 = v := ⟨_, rfl⟩
                have b455 := iv15_10 hS447.1 ta0 c454
                obtain ⟨v456, c457⟩ : ∃ v, I440 a0 11 = v := ⟨_, rfl⟩
                obtain ⟨y458, c459⟩ : ∃ v, L442 a0 15 = v := ⟨_, rfl⟩
                obtain ⟨v460, c461⟩ : ∃ v, I440 a0 12 = v := ⟨_, rfl⟩
                obtain ⟨v462, c463⟩ : ∃ v, I440 a0 8 = v := ⟨_, rfl⟩
                have b464 := iv15_8 hS447.1 ta0 c463
                exact ⟨rfl, rfl, rfl, rfl, rfl, hS447, (fun dr hd => (Option.some.inj (d2.symm.trans hd)) ▸ hO452), (Or.inr (⟨(by first | done | with_reducible assumption | exact om_7b84bd42 eF), (by (try rw [c449]); first | done | with_reducible assumption | omega), (by (try rw [c450]); first | done | with_reducible assumption | exact om_46d5da87 p251 eF), (by (try rw [c451]); first | done | with_reducible assumption | exact om_2757374c p252 eP), trivial⟩)), trivial⟩
            · skip
              exfalso; exact om_d657daee pre18 kd66 h201 h202
          · skip
            obtain ⟨v465, c466⟩ : ∃ v, I146 a0 9 = v := ⟨_, rfl⟩
            have b467 := iv15_9 hS154.1 ta0 c466
            rw [c466] at p172
            obtain ⟨v468, c469⟩ : ∃ v, I146 a0 13 = v := ⟨_, rfl⟩
            rw [c469] at p173
            obtain ⟨v470, c471⟩ : ∃ v, I146 a0 14 = v := ⟨_, rfl⟩
            rw [c471] at p174
            replace hF := hF.pos (by exact om_73cc8e29 p171)
            replace hP := hP.pos (by exact om_73cc8e29 p171)
            refine tr_istore_n dX12_readEvent_57 (by decide) (by decide) ?_
            refine sf_oE58 hE hZ hS154.1 (gB) ta0 (by (try rw [c466]); first | done | with_reducible assumption | omega) ⟨_, d2⟩ rfl rfl rfl rfl ?_
            rintro I472 R473 L474 ⟨g475, p476, p477, p478, -⟩
            obtain rfl : R0 = R473 := funext fun a => funext fun j => (g475.2.2 a j (wm_no rfl)).symm
            have hS479 := hS154.tr g475 (by decide +kernel) (by decide +kernel)
            have c480 : I472 a1 2 = v37 := (g475.cell ta1 (by decide +kernel)).trans c155
            have hO481 : FrO 14 a1 T I0 I472 := hO156.st g475 (by decide +kernel)
            obtain ⟨v482, c483⟩ : ∃ v, I472 a0 9 = v := ⟨_, rfl⟩
            have b484 := iv15_9 hS479.1 ta0 c483
            rw [c483] at p476
            obtain ⟨v485, c486⟩ : ∃ v, I472 a0 13 = v := ⟨_, rfl⟩
            rw [c486] at p477
            rw [c469] at p477
            obtain ⟨v487, c488⟩ : ∃ v, I472 a0 14 = v := ⟨_, rfl⟩
            rw [c488] at p478
            rw [c471] at p478
            have eF := hF.eq
            have eP := hP.eq
            obtain ⟨v489, c490⟩ : ∃ v, I472 a0 10 = v := ⟨_, rfl⟩
            have b491 := iv15_10 hS479.1 ta0 c490
            obtain ⟨v492, c493⟩ : ∃ v, I472 a0 11 = v := ⟨_, rfl⟩
            obtain ⟨y494, c495⟩ : ∃ v, L474 a0 15 = v := ⟨_, rfl⟩
            obtain ⟨v496, c497⟩ : ∃ v, I472 a0 12 = v := ⟨_, rfl⟩
            obtain ⟨v498, c499⟩ : ∃ v, I472 a0 8 = v := ⟨_, rfl⟩
            have b500 := iv15_8 hS479.1 ta0 c499
            exact ⟨rfl, rfl, rfl, rfl, rfl, hS479, (fun dr hd => (Option.some.inj (d2.symm.trans hd)) ▸ hO481), (Or.inr (⟨(by first | done | with_reducible assumption | exact om_7fac24c5 eF), (by (try rw [c483]); first | done | with_reducible assumption | omega), (by (try rw [c486]); first | done | with_reducible assumption | exact om_9adad658 p173 p477 eF), (by (try rw [c488]); first | done | with_reducible assumption | exact om_3998a42e p174 p478 eP), trivial⟩)), trivial⟩
          · skip
            obtain ⟨v501, c502⟩ : ∃ v, I146 a0 9 = v := ⟨_, rfl⟩
            have b503 := iv15_9 hS154.1 ta0 c502
            rw [c502] at p178
            obtain ⟨v504, c505⟩ : ∃ v, I146 a0 13 = v := ⟨_, rfl⟩
            rw [c505] at p179
            obtain ⟨v506, c507⟩ : ∃ v, I146 a0 14 = v := ⟨_, rfl⟩
            rw [c507] at p180
            replace hF := hF.neg (by exact om_10ed11b5 p176)
            replace hP := hP.neg (by exact om_10ed11b5 p176)
            replace hF := hF.pos (by exact om_41eb13e5 p32 w123 h141 h143 h145 p177)
            replace hP := hP.pos (by exact om_41eb13e5 p32 w123 h141 h143 h145 p177)
            refine tr_istore_n dX12_readEvent_57 (by decide) (by decide) ?_
            refine sf_oE58 hE hZ hS154.1 (gB) ta0 (by (try rw [c502]); first | done | with_reducible assumption | omega) ⟨_, d2⟩ rfl rfl rfl rfl ?_
            rintro I508 R509 L510 ⟨g511, p512, p513, p514, -⟩
            obtain rfl : R0 = R509 := funext fun a => funext fun j => (g511.2.2 a j (wm_no rfl)).symm
            have hS515 := hS154.tr g511 (by decide +kernel) (by decide +kernel)
            have c516 : I508 a1 2 = v37 := (g511.cell ta1 (by decide +kernel)).trans c155
            have hO517 : FrO 14 a1 T I0 I508 := hO156.st g511 (by decide +kernel)
            obtain ⟨v518, c519⟩ : ∃ v, I508 a0 9 = v := ⟨_, rfl⟩
            have b520 := iv15_9 hS515.1 ta0 c519
            rw [c519] at p512
            obtain ⟨v521, c522⟩ : ∃ v, I508 a0 13 = v := ⟨_, rfl⟩
            rw [c522] at p513
            rw [c505] at p513
            obtain ⟨v523, c524⟩ : ∃ v, I508 a0 14 = v := ⟨_, rfl⟩
            rw [c524] at p514
            rw [c507] at p514
            have eF := hF.eq
            have eP := hP.eq
            obtain ⟨v525, c526⟩ : ∃ v, I508 a0 10 = v := ⟨_, rfl⟩
            have b527 := iv15_10 hS515.1 ta0 c526
            obtain ⟨v528, c529⟩ : ∃ v, I508 a0 11 = v := ⟨_, rfl⟩
            obtain ⟨y530, c531⟩ : ∃ v, L510 a0 15 = v := ⟨_, rfl⟩
            obtain ⟨v532, c533⟩ : ∃ v, I508 a0 12 = v := ⟨_, rfl⟩
            obtain ⟨v534, c535⟩ : ∃ v, I508 a0 8 = v := ⟨_, rfl⟩
            have b536 := iv15_8 hS515.1 ta0 c535
            exact ⟨rfl, rfl, rfl, rfl, rfl, hS515, (fun dr hd => (Option.some.inj (d2.symm.trans hd)) ▸ hO517), (Or.inr (⟨(by first | done | with_reducible assumption | exact om_7b84bd42 eF), (by (try rw [c519]); first | done | with_reducible assumption | omega), (by (try rw [c522]); first | done | with_reducible assumption | exact om_4510ffdb p179 p513 eF), (by (try rw [c524]); first | done | with_reducible assumption | exact om_3998a42e p180 p514 eP), trivial⟩)), trivial⟩
        · skip
          exfalso; exact om_db5fcc13 pre18 kd66 h136 h137
    · skip
      obtain ⟨v537, c538⟩ : ∃ v, I69 a0 9 = v := ⟨_, rfl⟩
      have b539 := iv15_9 hS77.1 ta0 c538
      rw [c538] at p92
      obtain ⟨v540, c541⟩ : ∃ v, I69 a0 13 = v := ⟨_, rfl⟩
      rw [c541] at p93
      obtain ⟨v542, c543⟩ : ∃ v, I69 a0 14 = v := ⟨_, rfl⟩
      rw [c543] at p94
      have p544 := p61
      unfold Q7M at p544
      replace hF := hF.pos (by exact om_75684169 pre18 p40 kd66 h68 p91)
      replace hP := hP.pos (by exact om_75684169 pre18 p40 kd66 h68 p91)
      clear p544
      refine sf_oE13 hE hZ hS77.1 (gB) ta0 (by (try rw [c538]); first | done | with_reducible assumption | omega) ⟨_, d2⟩ rfl rfl ?_
      rintro I545 R546 L547 ⟨g548, p549, p550, p551, -⟩
      obtain rfl : R0 = R546 := funext fun a => funext fun j => (g548.2.2 a j (wm_no rfl)).symm
      have hS552 := hS77.tr g548 (by decide +kernel) (by decide +kernel)
      have c553 : I545 a1 2 = v37 := (g548.cell ta1 (by decide +kernel)).trans c78
      have hO554 : FrO 14 a1 T I0 I545 := hO79.st g548 (by decide +kernel)
      obtain ⟨v555, c556⟩ : ∃ v, I545 a0 9 = v := ⟨_, rfl⟩
      have b557 := iv15_9 hS552.1 ta0 c556
      rw [c556] at p549
      obtain ⟨v558, c559⟩ : ∃ v, I545 a0 13 = v := ⟨_, rfl⟩
      rw [c559] at p550
      rw [c541] at p550
      obtain ⟨v560, c561⟩ : ∃ v, I545 a0 14 = v := ⟨_, rfl⟩
      rw [c561] at p551
      rw [c543] at p551
      have eF := hF.eq
      have eP := hP.eq
      obtain ⟨v562, c563⟩ : ∃ v, I545 a0 10 = v := ⟨_, rfl⟩
      have b564 := iv15_10 hS552.1 ta0 c563
      obtain ⟨v565, c566⟩ : ∃ v, I545 a0 11 = v := ⟨_, rfl⟩
      obtain ⟨y567, c568⟩ : ∃ v, L547 a0 15 = v := ⟨_, rfl⟩
      obtain ⟨v569, c570⟩ : ∃ v, I545 a0 12 = v := ⟨_, rfl⟩
      obtain ⟨v571, c572⟩ : ∃ v, I545 a0 8 = v := ⟨_, rfl⟩
      have b573 := iv15_8 hS552.1 ta0 c572
      exact ⟨rfl, rfl, rfl, rfl, rfl, hS552, (fun dr hd => (Option.some.inj (d2.symm.trans hd)) ▸ hO554), (Or.inr (⟨(by first | done | with_reducible assumption | exact om_64c62efe eF), (by (try rw [c556]); first | done | with_reducible assumption | omega), (by (try rw [c559]); first | done | with_reducible assumption | exact om_7fd518bd p93 p550 eF), (by (try rw [c561]); first | done | with_reducible assumption | exact om_8e6888af p11 p94 p551 eP), trivial⟩)), trivial⟩
    · skip
      obtain ⟨v574, c575⟩ : ∃ v, I69 a0 9 = v := ⟨_, rfl⟩
      have b576 := iv15_9 hS77.1 ta0 c575
      rw [c575] at p97
      obtain ⟨v577, c578⟩ : ∃ v, I69 a0 13 = v := ⟨_, rfl⟩
      rw [c578] at p98
      obtain ⟨v579, c580⟩ : ∃ v, I69 a0 14 = v := ⟨_, rfl⟩
      rw [c580] at p99
      have p581 := p61
      unfold Q7M at p581
      replace hF := hF.neg (by exact om_45252056 pre18 b39.2 b39.1 p40 kd66 h68 p95 p96 p581)
      replace hP := hP.neg (by exact om_45252056 pre18 b39.2 b39.1 p40 kd66 h68 p95 p96 p581)
      replace hF := hF.pos (by exact om_de2d0c99 pre18 kd66 p96 p581)
      replace hP := hP.pos (by exact om_de2d0c99 pre18 kd66 p96 p581)
      clear p581
      refine sf_oE13 hE hZ hS77.1 (gB) ta0 (by (try rw [c575]); first | done | with_reducible assumption | omega) ⟨_, d2⟩ rfl rfl ?_
      rintro I582 R583 L584 ⟨g585, p586, p587, p588, -⟩
      obtain rfl : R0 = R583 := funext fun a => funext fun j => (g585.2.2 a j (wm_no rfl)).symm
      have hS589 := hS77.tr g585 (by decide +kernel) (by decide +kernel)
      have c590 : I582 a1 2 = v37 := (g585.cell ta1 (by decide +kernel)).trans c78
      have hO591 : FrO 14 a1 T I0 I582 := hO79.st g585 (by decide +kernel)
      obtain ⟨v592, c593⟩ : ∃ v, I582 a0 9 = v := ⟨_, rfl⟩
      have b594 := iv15_9 hS589.1 ta0 c593
      rw [c593] at p586
      obtain ⟨v595, c596⟩ : ∃ v, I582 a0 13 = v := ⟨_, rfl⟩
      rw [c596] at p587
      rw [c578] at p587
      obtain ⟨v597, c598⟩ : ∃ v, I582 a0 14 = v := ⟨_, rfl⟩
      rw [c598] at p588
      rw [c580] at p588
      have eF := hF.eq
      have eP := hP.eq
      obtain ⟨v599, c600⟩ : ∃ v, I582 a0 10 = v := ⟨_, rfl⟩
      have b601 := iv15_10 hS589.1 ta0 c600
      obtain ⟨v602, c603⟩ : ∃ v, I582 a0 11 = v := ⟨_, rfl⟩
      obtain ⟨y604, c605⟩ : ∃ v, L584 a0 15 = v := ⟨_, rfl⟩
      obtain ⟨v606, c607⟩ : ∃ v, I582 a0 12 = v := ⟨_, rfl⟩
      obtain ⟨v608, c609⟩ : ∃ v, I582 a0 8 = v := ⟨_, rfl⟩
      have b610 := iv15_8 hS589.1 ta0 c609
      exact ⟨rfl, rfl, rfl, rfl, rfl, hS589, (fun dr hd => (Option.some.inj (d2.symm.trans hd)) ▸ hO591), (Or.inr (⟨(by first | done | with_reducible assumption | exact om_3a8e1f7c eF), (by (try rw [c593]); first | done | with_reducible assumption | omega), (by (try rw [c596]); first | done | with_reducible assumption | exact om_1428d4dd p98 p587 eF), (by (try rw [c598]); first | done | with_reducible assumption | exact om_8e6888af p11 p99 p588 eP), trivial⟩)), trivial⟩
  · skip
    refine tr_aload_n dX12_readEvent_0 rfl ?_
    refine tr_aload_n dX12_readEvent_1 rfl ?_
    refine tr_getR dX12_readEvent_2 fl12_188 (kR15 hS0.1 ta0) d2 ?_
    refine q_getI dX12_readEvent_5 fl12_265 (kR14 hS0.1 ta1) c38 ?_
    refine q_bipush dX12_readEvent_8 (by decide +kernel) ?_
    intro v611 h612
    refine q_callVv hE (M' := mX12_begins) (as := [_, _]) dX12_readEvent_10 lk12_268 inX12_begins seX12_begins myX12_begins (by decide) ⟨by decide, by decide⟩ rfl (kR15 hS0.1 ta0) (Nat.le_of_ble_eq_true rfl) rfl rfl (by decide) (by decide) (fk_X12_begins hS0.1 (gB) (gs) (gQ) ta0 (TxA.kp hT hS0 ta0 rfl rfl rfl (by decide +kernel) (by decide +kernel)) (by (try rw [c4]); first | done | with_reducible assumption | omega) (by (try rw [c4]); first | done | with_reducible assumption | omega) (by (try rw [c9]); first | done | with_reducible assumption | omega) (by (try rw [c13]); first | done | with_reducible assumption | omega) (by (try rw [c16]); first | done | assumption) (by (try rw [c19]); first | done | assumption) (by (try rw [c22]); first | done | assumption) (by (try rw [c26]); first | done | with_reducible assumption | omega) (fun q0 z0 => by obtain rfl := Option.some.inj ((d2).symm.trans z0); (try rw [c30]); first | done | with_reducible assumption | omega) (by first | done | with_reducible assumption | omega) ⟨_, d2⟩) ?_
    rintro cn' K' N' I613 R614 L615 ⟨rfl, rfl, rfl, rfl, g616, dj619, -⟩
    have hM620 : NmM I613 R0 L0 a1 gQ := NmM.kpS hM0 g616 hS0.1 ta1 (by decide +kernel) (by decide +kernel)
    have hS621 := hS0.tr g616 (by decide +kernel) (by decide +kernel)
    have c622 : I613 a1 2 = v37 := (g616.cell ta1 (by decide +kernel)).trans c38
    have hO623 : FrO 14 a1 T I0 I613 := hO0.st g616 (by decide +kernel)
    rcases dj619 with ⟨p624, p625, p626, p627, p628, p629, p630, p631, p632, p633, gl634, -⟩ | ⟨p635, p636, p637, p638, -⟩ | ⟨p639, p640, p641, p642, p643, -⟩
    · skip
      have hL644 := hL0.tr gl634 (by decide +kernel)
      have hM645 : NmM I613 R0 L615 a1 gQ := NmM.kpL hM620 gl634 hS621.1 ta1 (by decide +kernel)
      obtain ⟨v646, c647⟩ : ∃ v, I613 a0 13 = v := ⟨_, rfl⟩
      rw [c647] at p626
      rw [c65] at p626
      obtain ⟨v648, c649⟩ : ∃ v, I613 a0 9 = v := ⟨_, rfl⟩
      have b650 := iv15_9 hS621.1 ta0 c649
      rw [c649] at p627
      rw [c649] at p628
      obtain ⟨v651, c652⟩ : ∃ v, I613 a0 10 = v := ⟨_, rfl⟩
      have b653 := iv15_10 hS621.1 ta0 c652
      rw [c652] at p629
      obtain ⟨v654, c655⟩ : ∃ v, I613 a0 11 = v := ⟨_, rfl⟩
      rw [c655] at p630
      obtain ⟨y656, c657⟩ : ∃ v, L615 a0 15 = v := ⟨_, rfl⟩
      rw [c657] at p631
      obtain ⟨v658, c659⟩ : ∃ v, I613 a0 12 = v := ⟨_, rfl⟩
      rw [c659] at p632
      obtain ⟨v660, c661⟩ : ∃ v, I613 a0 8 = v := ⟨_, rfl⟩
      have b662 := iv15_8 hS621.1 ta0 c661
      rw [c661] at p633
      have p663 := p61
      unfold Q7M at p663
      replace hF := hF.neg (by exact om_b9a27715 pre18 b31.2 b31.1 p32 b39.2 b39.1 p40 kd66 h612 p624 p625 p663)
      replace hP := hP.neg (by exact om_b9a27715 pre18 b31.2 b31.1 p32 b39.2 b39.1 p40 kd66 h612 p624 p625 p663)
      replace hF := hF.neg (by exact om_e0152f84 pre18 kd66 p625 p663)
      replace hP := hP.neg (by exact om_e0152f84 pre18 kd66 p625 p663)
      clear p663
      obtain ⟨w664, w665, w666, w667, w668, w669, w670, w671, w672, w673, w674, w675⟩ := lnl_e (B := gB) (Q := gQ) (s := gs) (by exact om_feb572f0 pre18 kd66) (by exact om_80600499 pre18 kd66)
      replace hF := hF.to w664 (evF_c0 (B := gB) (Q := gQ) (k := srt gB gs) (s := (tkN gB gs)) (by exact om_feb572f0 pre18 kd66) (by exact om_8bca188d pre18 kd66))
      replace hP := hP.to w665 (evP_c0 (B := gB) (Q := gQ) (k := srt gB gs) (s := (tkN gB gs)) (by exact om_feb572f0 pre18 kd66) (by exact om_8bca188d pre18 kd66))
      refine tr_iload_n dX12_readEvent_13 rfl ?_
      refine q_iconst dX12_readEvent_14 (by decide) ?_
      intro v676 h677
      refine q_icmp_eq 23 dX12_readEvent_15 (by decide) (fun h678 => ?_) (fun h678 => ?_)
      · skip
        exfalso; exact om_83b521cc pre18 kd66 h677 h678
      · skip
        refine tr_iload_n dX12_readEvent_18 rfl ?_
        refine q_iconst dX12_readEvent_19 (by decide) ?_
        intro v679 h680
        refine q_icmp_ne 40 dX12_readEvent_20 (by decide) (fun h681 => ?_) (fun h681 => ?_)
        · skip
          refine q_bipush dX12_readEvent_40 (by decide +kernel) ?_
          intro v682 h683
          refine tr_istore_n dX12_readEvent_42 (by decide) (by decide) ?_
          refine tr_aload_n dX12_readEvent_43 rfl ?_
          refine q_iconst dX12_readEvent_44 (by decide) ?_
          intro v684 h685
          refine tr_aload_n dX12_readEvent_45 rfl ?_
          refine tr_getR dX12_readEvent_46 fl12_188 (kR15 hS621.1 ta0) d2 ?_
          refine q_getI dX12_readEvent_49 fl12_192 (kR14 hS621.1 ta1) ((hS621.cell ta1 (by decide +kernel)).trans c30) ?_
          refine q_iconst dX12_readEvent_52 (by decide) ?_
          intro v686 h687
          refine q_isubE dX12_readEvent_53 (by intro j1 j2 j3 j4; exact om_6479810f b31.2 b31.1 p32 w667 h687) ?_
          intro v688 h689
          refine q_callVi hE (M' := mX12_readWhole) (as := [_, _]) dX12_readEvent_54 lk12_161 inX12_readWhole seX12_readWhole myX12_readWhole (by decide) ⟨by decide, by decide⟩ rfl (kR15 hS621.1 ta0) (Nat.le_of_ble_eq_true rfl) rfl rfl (by decide) (by decide) (fk_X12_readWhole hS621.1 (gB) ((tkN gB gs)) ta0 (TxA.kp hT hS621 ta0 rfl rfl rfl (by decide +kernel) (by decide +kernel)) (by (try rw [c649]); first | done | with_reducible assumption | omega) (by (try rw [c649]); first | done | with_reducible assumption | omega) (by (try rw [c652]); first | done | with_reducible assumption | omega) (by (try rw [c655]); first | done | with_reducible assumption | omega) (by (try rw [c657]); first | done | assumption) (by (try rw [c659]); first | done | assumption) (by (try rw [c661]); first | done | assumption) (by (try rw [((hS621.cell ta0 (by decide +kernel)).trans c26)]); first | done | with_reducible assumption | omega)) ?_
          rintro v695 cn' K' N' I690 R691 L692 ⟨rfl, rfl, rfl, rfl, g693, dj696, -⟩
          have hM697 : NmM I690 R0 L615 a1 gQ := NmM.kpS hM645 g693 hS621.1 ta1 (by decide +kernel) (by decide +kernel)
          have hS698 := hS621.tr g693 (by decide +kernel) (by decide +kernel)
          have c699 : I690 a1 2 = v37 := (g693.cell ta1 (by decide +kernel)).trans c622
          have hO700 : FrO 14 a1 T I0 I690 := hO623.st g693 (by decide +kernel)
          rcases dj696 with ⟨p701, p702, p703, p704, p705, p706, p707, p708, p709, p710, p711, p712, gl713, -⟩ | ⟨p714, p715, p716, p717, p718, -⟩ | ⟨p719, p720, p721, p722, p723, p724, -⟩
          · skip
            have hL725 := hL644.tr gl713 (by decide +kernel)
            have hM726 : NmM I690 R0 L692 a1 gQ := NmM.kpL hM697 gl713 hS698.1 ta1 (by decide +kernel)
            obtain ⟨v727, c728⟩ : ∃ v, I690 a0 13 = v := ⟨_, rfl⟩
            rw [c728] at p705
            rw [c647] at p705
            obtain ⟨v729, c730⟩ : ∃ v, I690 a0 9 = v := ⟨_, rfl⟩
            have b731 := iv15_9 hS698.1 ta0 c730
            rw [c730] at p706
            rw [c730] at p707
            obtain ⟨v732, c733⟩ : ∃ v, I690 a0 10 = v := ⟨_, rfl⟩
            have b734 := iv15_10 hS698.1 ta0 c733
            rw [c733] at p708
            obtain ⟨v735, c736⟩ : ∃ v, I690 a0 11 = v := ⟨_, rfl⟩
            rw [c736] at p709
            obtain ⟨y737, c738⟩ : ∃ v, L692 a0 15 = v := ⟨_, rfl⟩
            rw [c738] at p710
            obtain ⟨v739, c740⟩ : ∃ v, I690 a0 12 = v := ⟨_, rfl⟩
            rw [c740] at p711
            obtain ⟨v741, c742⟩ : ∃ v, I690 a0 8 = v := ⟨_, rfl⟩
            have b743 := iv15_8 hS698.1 ta0 c742
            rw [c742] at p712
            replace hF := hF.neg (by exact om_10ed11b5 p702)
            replace hP := hP.neg (by exact om_10ed11b5 p702)
            replace hF := hF.neg (by exact om_4062d996 p32 w667 h685 h687 h689 p703 p704)
            replace hP := hP.neg (by exact om_4062d996 p32 w667 h685 h687 h689 p703 p704)
            refine tr_istore_n dX12_readEvent_57 (by decide) (by decide) ?_
            refine tr_iload_n dX12_readEvent_58 rfl ?_
            refine q_iconst dX12_readEvent_59 (by decide) ?_
            intro v744 h745
            refine q_icmp_ne 69 dX12_readEvent_60 (by decide) (fun h746 => ?_) (fun h746 => ?_)
            · skip
              refine tr_aload_n dX12_readEvent_69 rfl ?_
              refine tr_ldcwS dX12_readEvent_70 ld12_272 ?_
              refine tr_iload_n dX12_readEvent_73 rfl ?_
              refine q_iconst dX12_readEvent_74 (by decide) ?_
              intro v747 h748
              refine q_iaddE dX12_readEvent_75 (by intro j1 j2 j3 j4; exact om_5e7b6990 b31.2 b31.1 p32 w667 h685 h687 h689 p701 p703 p704 h748 j2) ?_
              intro v749 h750
              refine tr_aload_n dX12_readEvent_76 rfl ?_
              refine tr_getR dX12_readEvent_77 fl12_188 (kR15 hS698.1 ta0) d2 ?_
              refine q_getI dX12_readEvent_80 fl12_192 (kR14 hS698.1 ta1) ((hS698.cell ta1 (by decide +kernel)).trans c30) ?_
              refine q_callVi hE (M' := mX12_readPart) (as := [_, _, _]) dX12_readEvent_83 lk12_249 inX12_readPart seX12_readPart myX12_readPart (by decide) ⟨by decide, by decide⟩ rfl (kR15 hS698.1 ta0) (Nat.le_of_ble_eq_true rfl) rfl rfl (by decide) (by decide) (fk_X12_readPart hS698.1 (gB) ((tkN gB (tkN gB gs))) ta0 (by decide) (TxA.kp hT hS698 ta0 rfl rfl rfl (by decide +kernel) (by decide +kernel)) (by (try rw [c730]); first | done | with_reducible assumption | omega) (by (try rw [c730]); first | done | with_reducible assumption | omega) (by (try rw [c733]); first | done | with_reducible assumption | omega) (by (try rw [c736]); first | done | with_reducible assumption | omega) (by (try rw [c738]); first | done | assumption) (by (try rw [c740]); first | done | assumption) (by (try rw [c742]); first | done | assumption) (by (try rw [((hS698.cell ta0 (by decide +kernel)).trans c26)]); first | done | with_reducible assumption | omega)) ?_
              rintro v756 cn' K' N' I751 R752 L753 ⟨rfl, rfl, rfl, rfl, g754, dj757, -⟩
              (try rw [pk_25] at dj757)
              have hM758 : NmM I751 R0 L692 a1 gQ := NmM.kpS hM726 g754 hS698.1 ta1 (by decide +kernel) (by decide +kernel)
              have hS759 := hS698.tr g754 (by decide +kernel) (by decide +kernel)
              have c760 : I751 a1 2 = v37 := (g754.cell ta1 (by decide +kernel)).trans c699
              have hO761 : FrO 14 a1 T I0 I751 := hO700.st g754 (by decide +kernel)
              rcases dj757 with ⟨p762, p763, p764, p765, p766, p767, p768, p769, p770, p771, p772, p773, p774, p775, gl776, -⟩ | ⟨p777, p778, p779, p780, p781, -⟩ | ⟨p782, p783, p784, p785, p786, p787, p788, -⟩ | ⟨p789, p790, p791, p792, p793, p794, p795, p796, -⟩
              · skip
                have hL797 := hL725.tr gl776 (by decide +kernel)
                have hM798 : NmM I751 R0 L753 a1 gQ := NmM.kpL hM758 gl776 hS759.1 ta1 (by decide +kernel)
                obtain ⟨v799, c800⟩ : ∃ v, I751 a0 13 = v := ⟨_, rfl⟩
                rw [c800] at p768
                rw [c728] at p768
                obtain ⟨v801, c802⟩ : ∃ v, I751 a0 9 = v := ⟨_, rfl⟩
                have b803 := iv15_9 hS759.1 ta0 c802
                rw [c802] at p769
                rw [c802] at p770
                obtain ⟨v804, c805⟩ : ∃ v, I751 a0 10 = v := ⟨_, rfl⟩
                have b806 := iv15_10 hS759.1 ta0 c805
                rw [c805] at p771
                obtain ⟨v807, c808⟩ : ∃ v, I751 a0 11 = v := ⟨_, rfl⟩
                rw [c808] at p772
                obtain ⟨y809, c810⟩ : ∃ v, L753 a0 15 = v := ⟨_, rfl⟩
                rw [c810] at p773
                obtain ⟨v811, c812⟩ : ∃ v, I751 a0 12 = v := ⟨_, rfl⟩
                rw [c812] at p774
                obtain ⟨v813, c814⟩ : ∃ v, I751 a0 8 = v := ⟨_, rfl⟩
                have b815 := iv15_8 hS759.1 ta0 c814
                rw [c814] at p775
                replace hF := hF.neg (by exact om_04941ac6 p763 p764)
                replace hP := hP.neg (by exact om_04941ac6 p763 p764)
                replace hF := hF.neg (by exact om_10ed11b5 p765)
                replace hP := hP.neg (by exact om_10ed11b5 p765)
                replace hF := hF.neg (by exact om_11a1fbca p32 w667 h687 h689 p701 h748 h750 p766 p767)
                replace hP := hP.neg (by exact om_11a1fbca p32 w667 h687 h689 p701 h748 h750 p766 p767)
                refine tr_istore dX12_readEvent_86 (by decide) (by decide) ?_
                refine tr_aload_n dX12_readEvent_88 rfl ?_
                refine q_getI dX12_readEvent_89 fl12_99 (kR15 hS759.1 ta0) c802 ?_
                refine q_iconst dX12_readEvent_92 (by decide) ?_
                intro v816 h817
                refine q_icmp_ne 97 dX12_readEvent_93 (by decide) (fun h818 => ?_) (fun h818 => ?_)
                · skip
                  refine tr_aload_n dX12_readEvent_97 rfl ?_
                  refine tr_getR dX12_readEvent_98 fl12_188 (kR15 hS759.1 ta0) d2 ?_
                  refine q_getI dX12_readEvent_101 fl12_265 (kR14 hS759.1 ta1) c760 ?_
                  refine tr_istore dX12_readEvent_104 (by decide) (by decide) ?_
                  refine tr_aload_n dX12_readEvent_106 rfl ?_
                  refine tr_getR dX12_readEvent_107 fl12_188 (kR15 hS759.1 ta0) d2 ?_
                  obtain ⟨a819, d820, ta819⟩ := rf14_11 hW0 ta1
                  refine tr_getR dX12_readEvent_110 fl12_274 (kR14 hS759.1 ta1) d820 ?_
                  refine tr_iload dX12_readEvent_113 rfl ?_
                  refine tr_iload_n dX12_readEvent_115 rfl ?_
                  refine q_iastX dX12_readEvent_116 (kR54 hS759.1 ta819) (ti_in (nR54 hS759.1 ta819) (by exact om_b14f9e1e b39.2 b39.1 p40 w669) (by exact om_b59d1910 pre18 b31.2 b31.1 p32 b39.2 b39.1 p40 kd66 h612 p624 p625 w667 w669 h677 h678 h680 h681 h687 h689 h745 h746 p770 p769 b803.1 h817 h818)) hS759 ta819 (by rfl) (hS759.1.putK (m := a1) ta1 d820 (by rw [c760]; exact Int.le_of_eq (ti_nat (by exact om_b14f9e1e b39.2 b39.1 p40 w669)).symm)) ?_
                  intro I825 hS826 e827 f828
                  have c829 : I825 a1 2 = v37 := (f828 _ _ (fun q => by have z := ta1; rw [q.1, ta819] at z; exact absurd z (by decide))).trans c760
                  have c830 : I825 a0 13 = v799 := (f828 _ _ (fun q => by have z := ta0; rw [q.1, ta819] at z; exact absurd z (by decide))).trans c800
                  have c831 : I825 a0 9 = v801 := (f828 _ _ (fun q => by have z := ta0; rw [q.1, ta819] at z; exact absurd z (by decide))).trans c802
                  have c832 : I825 a0 10 = v804 := (f828 _ _ (fun q => by have z := ta0; rw [q.1, ta819] at z; exact absurd z (by decide))).trans c805
                  have c833 : I825 a0 11 = v807 := (f828 _ _ (fun q => by have z := ta0; rw [q.1, ta819] at z; exact absurd z (by decide))).trans c808
                  have c834 : I825 a0 12 = v811 := (f828 _ _ (fun q => by have z := ta0; rw [q.1, ta819] at z; exact absurd z (by decide))).trans c812
                  have c835 : I825 a0 8 = v813 := (f828 _ _ (fun q => by have z := ta0; rw [q.1, ta819] at z; exact absurd z (by decide))).trans c814
                  have hO836 : FrO 14 a1 T I0 I825 := hO761.put f828 ta819 (Or.inl (by decide))
                  have hM837 : NmM I825 R0 L753 a1 gQ := NmM.kp1 hM798 f828 ta819 rfl rfl hS759.1 ta1
                  refine tr_aload_n dX12_readEvent_117 rfl ?_
                  refine tr_getR dX12_readEvent_118 fl12_188 (kR15 hS826.1 ta0) d2 ?_
                  obtain ⟨a838, d839, ta838⟩ := rf14_12 hW0 ta1
                  refine tr_getR dX12_readEvent_121 fl12_277 (kR14 hS826.1 ta1) d839 ?_
                  refine tr_iload dX12_readEvent_124 rfl ?_
                  refine tr_iload_n dX12_readEvent_126 rfl ?_
                  refine q_iastX dX12_readEvent_127 (kR55 hS826.1 ta838) (ti_in (nR55 hS826.1 ta838) (by exact om_b14f9e1e b39.2 b39.1 p40 w669) (by exact om_b59d1910 pre18 b31.2 b31.1 p32 b39.2 b39.1 p40 kd66 h612 p624 p625 w667 w669 h677 h678 h680 h681 h687 h689 h745 h746 p770 p769 b803.1 h817 h818)) hS826 ta838 (by rfl) (hS826.1.putH (m := a1) ta1 d839 (by rw [c829]; exact Int.le_of_eq (ti_nat (by exact om_b14f9e1e b39.2 b39.1 p40 w669)).symm) (by exact om_9bdeced0 h683)) ?_
                  intro I844 hS845 e846 f847
                  have c848 : I844 a1 2 = v37 := (f847 _ _ (fun q => by have z := ta1; rw [q.1, ta838] at z; exact absurd z (by decide))).trans c829
                  have c849 : I844 a0 13 = v799 := (f847 _ _ (fun q => by have z := ta0; rw [q.1, ta838] at z; exact absurd z (by decide))).trans c830
                  have c850 : I844 a0 9 = v801 := (f847 _ _ (fun q => by have z := ta0; rw [q.1, ta838] at z; exact absurd z (by decide))).trans c831
                  have c851 : I844 a0 10 = v804 := (f847 _ _ (fun q => by have z := ta0; rw [q.1, ta838] at z; exact absurd z (by decide))).trans c832
                  have c852 : I844 a0 11 = v807 := (f847 _ _ (fun q => by have z := ta0; rw [q.1, ta838] at z; exact absurd z (by decide))).trans c833
                  have c853 : I844 a0 12 = v811 := (f847 _ _ (fun q => by have z := ta0; rw [q.1, ta838] at z; exact absurd z (by decide))).trans c834
                  have c854 : I844 a0 8 = v813 := (f847 _ _ (fun q => by have z := ta0; rw [q.1, ta838] at z; exact absurd z (by decide))).trans c835
                  have c855 : I844 a819 v37.toNatClampNeg = x1 := (f847 _ _ (fun q => by have z := ta819; rw [q.1, ta838] at z; exact absurd z (by decide))).trans e827
                  have hO856 : FrO 14 a1 T I0 I844 := hO836.put f847 ta838 (Or.inl (by decide))
                  have hM857 : NmM I844 R0 L753 a1 gQ := NmM.kp1 hM837 f847 ta838 rfl rfl hS826.1 ta1
                  refine tr_aload_n dX12_readEvent_128 rfl ?_
                  refine tr_getR dX12_readEvent_129 fl12_188 (kR15 hS845.1 ta0) d2 ?_
                  obtain ⟨a858, d859, ta858⟩ := rf14_13 hW0 ta1
                  refine tr_getR dX12_readEvent_132 fl12_280 (kR14 hS845.1 ta1) d859 ?_
                  refine tr_iload dX12_readEvent_135 rfl ?_
                  refine tr_iload_n dX12_readEvent_137 rfl ?_
                  refine q_iast dX12_readEvent_138 (kR56 hS845.1 ta858) (ti_in (nR56 hS845.1 ta858) (by exact om_b14f9e1e b39.2 b39.1 p40 w669) (by exact om_b59d1910 pre18 b31.2 b31.1 p32 b39.2 b39.1 p40 kd66 h612 p624 p625 w667 w669 h677 h678 h680 h681 h687 h689 h745 h746 p770 p769 b803.1 h817 h818)) hS845 ta858 (by show (0 : Int) ≤ v695.toInt ∧ v695.toInt ≤ (240 : Int); exact om_0f0d8164 b31.2 b31.1 p32 w667 h685 h687 h689 p701 p703 p704 h748 h750) rfl (by rfl) ?_
                  intro I860 hS861 e863 f862
                  have c864 : I860 a1 2 = v37 := (f862 _ _ (fun q => by have z := ta1; rw [q.1, ta858] at z; exact absurd z (by decide))).trans c848
                  have c865 : I860 a0 13 = v799 := (f862 _ _ (fun q => by have z := ta0; rw [q.1, ta858] at z; exact absurd z (by decide))).trans c849
                  have c866 : I860 a0 9 = v801 := (f862 _ _ (fun q => by have z := ta0; rw [q.1, ta858] at z; exact absurd z (by decide))).trans c850
                  have c867 : I860 a0 10 = v804 := (f862 _ _ (fun q => by have z := ta0; rw [q.1, ta858] at z; exact absurd z (by decide))).trans c851
                  have c868 : I860 a0 11 = v807 := (f862 _ _ (fun q => by have z := ta0; rw [q.1, ta858] at z; exact absurd z (by decide))).trans c852
                  have c869 : I860 a0 12 = v811 := (f862 _ _ (fun q => by have z := ta0; rw [q.1, ta858] at z; exact absurd z (by decide))).trans c853
                  have c870 : I860 a0 8 = v813 := (f862 _ _ (fun q => by have z := ta0; rw [q.1, ta858] at z; exact absurd z (by decide))).trans c854
                  have c871 : I860 a819 v37.toNatClampNeg = x1 := (f862 _ _ (fun q => by have z := ta819; rw [q.1, ta858] at z; exact absurd z (by decide))).trans c855
                  have c872 : I860 a838 v37.toNatClampNeg = v682 := (f862 _ _ (fun q => by have z := ta838; rw [q.1, ta858] at z; exact absurd z (by decide))).trans e846
                  have hO873 : FrO 14 a1 T I0 I860 := hO856.put f862 ta858 (Or.inl (by decide))
                  have hM874 : NmM I860 R0 L753 a1 gQ := NmM.kp1 hM857 f862 ta858 rfl rfl hS845.1 ta1
                  refine tr_aload_n dX12_readEvent_139 rfl ?_
                  refine tr_getR dX12_readEvent_140 fl12_188 (kR15 hS861.1 ta0) d2 ?_
                  obtain ⟨a875, d876, ta875⟩ := rf14_14 hW0 ta1
                  refine tr_getR dX12_readEvent_143 fl12_283 (kR14 hS861.1 ta1) d876 ?_
                  refine tr_iload dX12_readEvent_146 rfl ?_
                  refine tr_iload dX12_readEvent_148 rfl ?_
                  refine q_iast dX12_readEvent_150 (kR57 hS861.1 ta875) (ti_in (nR57 hS861.1 ta875) (by exact om_b14f9e1e b39.2 b39.1 p40 w669) (by exact om_b59d1910 pre18 b31.2 b31.1 p32 b39.2 b39.1 p40 kd66 h612 p624 p625 w667 w669 h677 h678 h680 h681 h687 h689 h745 h746 p770 p769 b803.1 h817 h818)) hS861 ta875 (by show (0 : Int) ≤ v756.toInt ∧ v756.toInt ≤ (240 : Int); exact om_6c1edee8 b31.2 b31.1 p32 w667 h685 h687 h689 p701 p703 h748 h750 p762 p766 p767) rfl (by rfl) ?_
                  intro I877 hS878 e880 f879
                  have c881 : I877 a1 2 = v37 := (f879 _ _ (fun q => by have z := ta1; rw [q.1, ta875] at z; exact absurd z (by decide))).trans c864
                  have c882 : I877 a0 13 = v799 := (f879 _ _ (fun q => by have z := ta0; rw [q.1, ta875] at z; exact absurd z (by decide))).trans c865
                  have c883 : I877 a0 9 = v801 := (f879 _ _ (fun q => by have z := ta0; rw [q.1, ta875] at z; exact absurd z (by decide))).trans c866
                  have c884 : I877 a0 10 = v804 := (f879 _ _ (fun q => by have z := ta0; rw [q.1, ta875] at z; exact absurd z (by decide))).trans c867
                  have c885 : I877 a0 11 = v807 := (f879 _ _ (fun q => by have z := ta0; rw [q.1, ta875] at z; exact absurd z (by decide))).trans c868
                  have c886 : I877 a0 12 = v811 := (f879 _ _ (fun q => by have z := ta0; rw [q.1, ta875] at z; exact absurd z (by decide))).trans c869
                  have c887 : I877 a0 8 = v813 := (f879 _ _ (fun q => by have z := ta0; rw [q.1, ta875] at z; exact absurd z (by decide))).trans c870
                  have c888 : I877 a819 v37.toNatClampNeg = x1 := (f879 _ _ (fun q => by have z := ta819; rw [q.1, ta875] at z; exact absurd z (by decide))).trans c871
                  have c889 : I877 a838 v37.toNatClampNeg = v682 := (f879 _ _ (fun q => by have z := ta838; rw [q.1, ta875] at z; exact absurd z (by decide))).trans c872
                  have hO890 : FrO 14 a1 T I0 I877 := hO873.put f879 ta875 (Or.inl (by decide))
                  have hM891 : NmM I877 R0 L753 a1 gQ := NmM.kp1 hM874 f879 ta875 rfl rfl hS861.1 ta1
                  refine tr_aload_n dX12_readEvent_151 rfl ?_
                  refine tr_getR dX12_readEvent_152 fl12_188 (kR15 hS878.1 ta0) d2 ?_
                  refine tr_dup dX12_readEvent_155 rfl ?_
                  refine q_getI dX12_readEvent_156 fl12_265 (kR14 hS878.1 ta1) c881 ?_
                  refine q_iconst dX12_readEvent_159 (by decide) ?_
                  intro v892 h893
                  refine q_iaddE dX12_readEvent_160 (by intro j1 j2 j3 j4; exact om_a5745fee b39.2 b39.1 p40 w669 h893) ?_
                  intro v894 h895
                  refine q_putX dX12_readEvent_161 fl12_265 (kR14 hS878.1 ta1) (Or.inl rfl) hS878 ta1 (by decide +kernel) (hS878.1.putE (i := v37.toNatClampNeg) ta1 d820 d839 (by rw [c881]; exact (ti_nat (by exact om_74bf4760 b39.2 b39.1 p40 w669 h893 h895)).symm) (by rw [c881]; exact om_5a680f8c p40 w669 h893 h895) (by exact om_b299b1e6 pre18 b31.2 b31.1 p32 b39.2 b39.1 p40 kd66 h612 p624 p625 w667 w669 h677 h678 h680 h681 h687 h689 h745 h746 p770 p769 b803.1 h817 h818 h893 h895) (by rw [c888, c889]; exact om_bcec1386 pre18 kd66)) ?_
                  intro I896 hS897 e898 f899
                  have c900 : I896 a0 13 = v799 := (f899 _ _ (fun q => absurd q.2 (by decide))).trans c882
                  have c901 : I896 a0 9 = v801 := (f899 _ _ (fun q => absurd q.2 (by decide))).trans c883
                  have c902 : I896 a0 10 = v804 := (f899 _ _ (fun q => absurd q.2 (by decide))).trans c884
                  have c903 : I896 a0 11 = v807 := (f899 _ _ (fun q => absurd q.2 (by decide))).trans c885
                  have c904 : I896 a0 12 = v811 := (f899 _ _ (fun q => absurd q.2 (by decide))).trans c886
                  have c905 : I896 a0 8 = v813 := (f899 _ _ (fun q => absurd q.2 (by decide))).trans c887
                  have c906 : I896 a819 v37.toNatClampNeg = x1 := (f899 _ _ (fun q => by have z := ta819; rw [q.1, ta1] at z; exact absurd z (by decide))).trans c888
                  have c907 : I896 a838 v37.toNatClampNeg = v682 := (f899 _ _ (fun q => by have z := ta838; rw [q.1, ta1] at z; exact absurd z (by decide))).trans c889
                  have hO908 : FrO 14 a1 T I0 I896 := hO890.put f899 ta1 (Or.inr rfl)
                  have hM909 : NmM I896 R0 L753 a1 gQ := NmM.kp1 hM891 f899 ta1 rfl rfl hS878.1 ta1
                  have eF := hF.eq
                  have eP := hP.eq
                  have es910 := evS_c0 (B := gB) (Q := gQ) (k := srt gB gs) (s := (tkN gB gs)) (by exact om_feb572f0 pre18 kd66) (by exact om_8bca188d pre18 kd66)
                  obtain ⟨v911, c912⟩ : ∃ v, I896 a0 14 = v := ⟨_, rfl⟩
                  exact tr_vret hZ dX12_readEvent_164 rfl (by decide) (by decide) ⟨rfl, rfl, rfl, rfl, rfl, hS897, (fun dr hd => (Option.some.inj (d2.symm.trans hd)) ▸ hO908), (Or.inl ⟨(by (try rw [w666]); (try rw [es910]); first | done | with_reducible assumption | omega), (fun q0 z0 => by obtain rfl := Option.some.inj ((d2).symm.trans z0); (try rw [w666]); (try rw [es910]); (try rw [((hS897.cell ta1 (by decide +kernel)).trans c30)]); first | done | with_reducible assumption | exact om_2757374c p32 w667), (fun q0 z0 => by obtain rfl := Option.some.inj ((d2).symm.trans z0); (try rw [w666]); (try rw [es910]); (try rw [((hS897.cell ta1 (by decide +kernel)).trans c34)]); first | done | with_reducible assumption | exact om_2757374c p36 w668), (fun q0 z0 => by obtain rfl := Option.some.inj ((d2).symm.trans z0); (try rw [w666]); (try rw [es910]); (try rw [e898]); first | done | with_reducible assumption | exact om_7149e5be p40 w669 h893 h895), (fun q0 z0 => by obtain rfl := Option.some.inj ((d2).symm.trans z0); (try rw [w666]); (try rw [es910]); (try rw [((hS897.cell ta1 (by decide +kernel)).trans c42)]); first | done | with_reducible assumption | exact om_2757374c p44 w670), (fun q0 z0 => by obtain rfl := Option.some.inj ((d2).symm.trans z0); (try rw [w666]); (try rw [es910]); (try rw [((hS897.cell ta1 (by decide +kernel)).trans c46)]); first | done | with_reducible assumption | exact om_2757374c p48 w671), (fun q0 z0 => by obtain rfl := Option.some.inj ((d2).symm.trans z0); (try rw [w666]); (try rw [es910]); (try rw [((hS897.cell ta1 (by decide +kernel)).trans c50)]); first | done | with_reducible assumption | exact om_2757374c p52 w672), (fun q0 z0 => by obtain rfl := Option.some.inj ((d2).symm.trans z0); (try rw [w666]); (try rw [es910]); (try rw [((hS897.cell ta1 (by decide +kernel)).trans c54)]); first | done | with_reducible assumption | exact om_2757374c p56 w673), (fun q0 z0 => by obtain rfl := Option.some.inj ((d2).symm.trans z0); (try rw [w666]); (try rw [es910]); (try rw [((hS897.cell ta1 (by decide +kernel)).trans c58)]); first | done | with_reducible assumption | exact om_2757374c p60 w675), (by (try rw [w666]); (try rw [es910]); (try rw [c900]); (try rw [c65]); first | done | with_reducible assumption | exact om_1c22ab7e p626 p705 p768), (by (try rw [w666]); (try rw [es910]); (try rw [c901]); first | done | with_reducible assumption | omega), (by (try rw [w666]); (try rw [es910]); (try rw [c901]); first | done | with_reducible assumption | omega), (by (try rw [w666]); (try rw [es910]); (try rw [c902]); first | done | with_reducible assumption | omega), (by (try rw [w666]); (try rw [es910]); (try rw [c903]); first | done | with_reducible assumption | omega), (by (try rw [w666]); (try rw [es910]); (try rw [c810]); first | done | assumption), (by (try rw [w666]); (try rw [es910]); (try rw [c904]); first | done | assumption), (by (try rw [w666]); (try rw [es910]); (try rw [c905]); first | done | assumption), hL797, (fun b hb => (Option.some.inj (d2.symm.trans hb)) ▸ NmM.ln (NmM.bd (k := srt gB gs) hM909 (by exact om_96408bac pre18 kd66) (by exact om_541a35f4 pre18 kd66)) rfl), trivial⟩), trivial⟩
                · skip
                  exfalso; exact om_99cda0b7 p770 p769 b803.1 h817 h818
              · skip
                obtain ⟨v913, c914⟩ : ∃ v, I751 a0 9 = v := ⟨_, rfl⟩
                have b915 := iv15_9 hS759.1 ta0 c914
                rw [c914] at p779
                obtain ⟨v916, c917⟩ : ∃ v, I751 a0 13 = v := ⟨_, rfl⟩
                rw [c917] at p780
                obtain ⟨v918, c919⟩ : ∃ v, I751 a0 14 = v := ⟨_, rfl⟩
                rw [c919] at p781
                replace hF := hF.pos (by exact om_5c733ef2 p778)
                replace hP := hP.pos (by exact om_5c733ef2 p778)
                refine tr_istore dX12_readEvent_86 (by decide) (by decide) ?_
                refine sf_oE88 hE hZ hS759.1 (gB) ta0 (by (try rw [c914]); first | done | with_reducible assumption | omega) ⟨_, d2⟩ rfl rfl rfl rfl rfl ?_
                rintro I920 R921 L922 ⟨g923, p924, p925, p926, -⟩
                obtain rfl : R0 = R921 := funext fun a => funext fun j => (g923.2.2 a j (wm_no rfl)).symm
                have hS927 := hS759.tr g923 (by decide +kernel) (by decide +kernel)
                have c928 : I920 a1 2 = v37 := (g923.cell ta1 (by decide +kernel)).trans c760
                have c929 : I920 a0 9 = v913 := (g923.cell ta0 (by decide +kernel)).trans c914
                have c930 : I920 a0 13 = v916 := (g923.cell ta0 (by decide +kernel)).trans c917
                have c931 : I920 a0 14 = v918 := (g923.cell ta0 (by decide +kernel)).trans c919
                have hO932 : FrO 14 a1 T I0 I920 := hO761.st g923 (by decide +kernel)
                rw [c929] at p924
                rw [c930] at p925
                rw [c917] at p925
                rw [c931] at p926
                rw [c919] at p926
                have eF := hF.eq
                have eP := hP.eq
                obtain ⟨v933, c934⟩ : ∃ v, I920 a0 10 = v := ⟨_, rfl⟩
                have b935 := iv15_10 hS927.1 ta0 c934
                obtain ⟨v936, c937⟩ : ∃ v, I920 a0 11 = v := ⟨_, rfl⟩
                obtain ⟨y938, c939⟩ : ∃ v, L922 a0 15 = v := ⟨_, rfl⟩
                obtain ⟨v940, c941⟩ : ∃ v, I920 a0 12 = v := ⟨_, rfl⟩
                obtain ⟨v942, c943⟩ : ∃ v, I920 a0 8 = v := ⟨_, rfl⟩
                have b944 := iv15_8 hS927.1 ta0 c943
                exact ⟨rfl, rfl, rfl, rfl, rfl, hS927, (fun dr hd => (Option.some.inj (d2.symm.trans hd)) ▸ hO932), (Or.inr (⟨(by first | done | with_reducible assumption | exact om_7fac24c5 eF), (by (try rw [c929]); first | done | with_reducible assumption | omega), (by (try rw [c930]); first | done | with_reducible assumption | exact om_3345b898 p780 eF), (by (try rw [c931]); first | done | with_reducible assumption | exact om_2757374c p781 eP), trivial⟩)), trivial⟩
              · skip
                obtain ⟨v945, c946⟩ : ∃ v, I751 a0 9 = v := ⟨_, rfl⟩
                have b947 := iv15_9 hS759.1 ta0 c946
                rw [c946] at p786
                obtain ⟨v948, c949⟩ : ∃ v, I751 a0 13 = v := ⟨_, rfl⟩
                rw [c949] at p787
                obtain ⟨v950, c951⟩ : ∃ v, I751 a0 14 = v := ⟨_, rfl⟩
                rw [c951] at p788
                replace hF := hF.neg (by exact om_04941ac6 p783 p784)
                replace hP := hP.neg (by exact om_04941ac6 p783 p784)
                replace hF := hF.pos (by exact om_73cc8e29 p785)
                replace hP := hP.pos (by exact om_73cc8e29 p785)
                refine tr_istore dX12_readEvent_86 (by decide) (by decide) ?_
                refine sf_oE88 hE hZ hS759.1 (gB) ta0 (by (try rw [c946]); first | done | with_reducible assumption | omega) ⟨_, d2⟩ rfl rfl rfl rfl rfl ?_
                rintro I952 R953 L954 ⟨g955, p956, p957, p958, -⟩
                obtain rfl : R0 = R953 := funext fun a => funext fun j => (g955.2.2 a j (wm_no rfl)).symm
                have hS959 := hS759.tr g955 (by decide +kernel) (by decide +kernel)
                have c960 : I952 a1 2 = v37 := (g955.cell ta1 (by decide +kernel)).trans c760
                have c961 : I952 a0 9 = v945 := (g955.cell ta0 (by decide +kernel)).trans c946
                have c962 : I952 a0 13 = v948 := (g955.cell ta0 (by decide +kernel)).trans c949
                have c963 : I952 a0 14 = v950 := (g955.cell ta0 (by decide +kernel)).trans c951
                have hO964 : FrO 14 a1 T I0 I952 := hO761.st g955 (by decide +kernel)
                rw [c961] at p956
                rw [c962] at p957
                rw [c949] at p957
                rw [c963] at p958
                rw [c951] at p958
                have eF := hF.eq
                have eP := hP.eq
                obtain ⟨v965, c966⟩ : ∃ v, I952 a0 10 = v := ⟨_, rfl⟩
                have b967 := iv15_10 hS959.1 ta0 c966
                obtain ⟨v968, c969⟩ : ∃ v, I952 a0 11 = v := ⟨_, rfl⟩
                obtain ⟨y970, c971⟩ : ∃ v, L954 a0 15 = v := ⟨_, rfl⟩
                obtain ⟨v972, c973⟩ : ∃ v, I952 a0 12 = v := ⟨_, rfl⟩
                obtain ⟨v974, c975⟩ : ∃ v, I952 a0 8 = v := ⟨_, rfl⟩
                have b976 := iv15_8 hS959.1 ta0 c975
                exact ⟨rfl, rfl, rfl, rfl, rfl, hS959, (fun dr hd => (Option.some.inj (d2.symm.trans hd)) ▸ hO964), (Or.inr (⟨(by first | done | with_reducible assumption | exact om_7fac24c5 eF), (by (try rw [c961]); first | done | with_reducible assumption | omega), (by (try rw [c962]); first | done | with_reducible assumption | exact om_3345b898 p787 eF), (by (try rw [c963]); first | done | with_reducible assumption | exact om_2757374c p788 eP), trivial⟩)), trivial⟩
              · skip
                obtain ⟨v977, c978⟩ : ∃ v, I751 a0 9 = v := ⟨_, rfl⟩
                have b979 := iv15_9 hS759.1 ta0 c978
                rw [c978] at p794
                obtain ⟨v980, c981⟩ : ∃ v, I751 a0 13 = v := ⟨_, rfl⟩
                rw [c981] at p795
                obtain ⟨v982, c983⟩ : ∃ v, I751 a0 14 = v := ⟨_, rfl⟩
                rw [c983] at p796
                replace hF := hF.neg (by exact om_04941ac6 p790 p791)
                replace hP := hP.neg (by exact om_04941ac6 p790 p791)
                replace hF := hF.neg (by exact om_10ed11b5 p792)
                replace hP := hP.neg (by exact om_10ed11b5 p792)
                replace hF := hF.pos (by exact om_ecc016f6 p32 w667 h687 h689 p701 h748 h750 p793)
                replace hP := hP.pos (by exact om_ecc016f6 p32 w667 h687 h689 p701 h748 h750 p793)
                refine tr_istore dX12_readEvent_86 (by decide) (by decide) ?_
                refine sf_oE88 hE hZ hS759.1 (gB) ta0 (by (try rw [c978]); first | done | with_reducible assumption | omega) ⟨_, d2⟩ rfl rfl rfl rfl rfl ?_
                rintro I984 R985 L986 ⟨g987, p988, p989, p990, -⟩
                obtain rfl : R0 = R985 := funext fun a => funext fun j => (g987.2.2 a j (wm_no rfl)).symm
                have hS991 := hS759.tr g987 (by decide +kernel) (by decide +kernel)
                have c992 : I984 a1 2 = v37 := (g987.cell ta1 (by decide +kernel)).trans c760
                have c993 : I984 a0 9 = v977 := (g987.cell ta0 (by decide +kernel)).trans c978
                have c994 : I984 a0 13 = v980 := (g987.cell ta0 (by decide +kernel)).trans c981
                have c995 : I984 a0 14 = v982 := (g987.cell ta0 (by decide +kernel)).trans c983
                have hO996 : FrO 14 a1 T I0 I984 := hO761.st g987 (by decide +kernel)
                rw [c993] at p988
                rw [c994] at p989
                rw [c981] at p989
                rw [c995] at p990
                rw [c983] at p990
                have eF := hF.eq
                have eP := hP.eq
                obtain ⟨v997, c998⟩ : ∃ v, I984 a0 10 = v := ⟨_, rfl⟩
                have b999 := iv15_10 hS991.1 ta0 c998
                obtain ⟨v1000, c1001⟩ : ∃ v, I984 a0 11 = v := ⟨_, rfl⟩
                obtain ⟨y1002, c1003⟩ : ∃ v, L986 a0 15 = v := ⟨_, rfl⟩
                obtain ⟨v1004, c1005⟩ : ∃ v, I984 a0 12 = v := ⟨_, rfl⟩
                obtain ⟨v1006, c1007⟩ : ∃ v, I984 a0 8 = v := ⟨_, rfl⟩
                have b1008 := iv15_8 hS991.1 ta0 c1007
                exact ⟨rfl, rfl, rfl, rfl, rfl, hS991, (fun dr hd => (Option.some.inj (d2.symm.trans hd)) ▸ hO996), (Or.inr (⟨(by first | done | with_reducible assumption | exact om_7b84bd42 eF), (by (try rw [c993]); first | done | with_reducible assumption | omega), (by (try rw [c994]); first | done | with_reducible assumption | exact om_46d5da87 p795 eF), (by (try rw [c995]); first | done | with_reducible assumption | exact om_2757374c p796 eP), trivial⟩)), trivial⟩
            · skip
              exfalso; exact om_3ea76577 pre18 kd66 h745 h746
          · skip
            obtain ⟨v1009, c1010⟩ : ∃ v, I690 a0 9 = v := ⟨_, rfl⟩
            have b1011 := iv15_9 hS698.1 ta0 c1010
            rw [c1010] at p716
            obtain ⟨v1012, c1013⟩ : ∃ v, I690 a0 13 = v := ⟨_, rfl⟩
            rw [c1013] at p717
            obtain ⟨v1014, c1015⟩ : ∃ v, I690 a0 14 = v := ⟨_, rfl⟩
            rw [c1015] at p718
            replace hF := hF.pos (by exact om_73cc8e29 p715)
            replace hP := hP.pos (by exact om_73cc8e29 p715)
            refine tr_istore_n dX12_readEvent_57 (by decide) (by decide) ?_
            refine sf_oE58 hE hZ hS698.1 (gB) ta0 (by (try rw [c1010]); first | done | with_reducible assumption | omega) ⟨_, d2⟩ rfl rfl rfl rfl ?_
            rintro I1016 R1017 L1018 ⟨g1019, p1020, p1021, p1022, -⟩
            obtain rfl : R0 = R1017 := funext fun a => funext fun j => (g1019.2.2 a j (wm_no rfl)).symm
            have hS1023 := hS698.tr g1019 (by decide +kernel) (by decide +kernel)
            have c1024 : I1016 a1 2 = v37 := (g1019.cell ta1 (by decide +kernel)).trans c699
            have hO1025 : FrO 14 a1 T I0 I1016 := hO700.st g1019 (by decide +kernel)
            obtain ⟨v1026, c1027⟩ : ∃ v, I1016 a0 9 = v := ⟨_, rfl⟩
            have b1028 := iv15_9 hS1023.1 ta0 c1027
            rw [c1027] at p1020
            obtain ⟨v1029, c1030⟩ : ∃ v, I1016 a0 13 = v := ⟨_, rfl⟩
            rw [c1030] at p1021
            rw [c1013] at p1021
            obtain ⟨v1031, c1032⟩ : ∃ v, I1016 a0 14 = v := ⟨_, rfl⟩
            rw [c1032] at p1022
            rw [c1015] at p1022
            have eF := hF.eq
            have eP := hP.eq
            obtain ⟨v1033, c1034⟩ : ∃ v, I1016 a0 10 = v := ⟨_, rfl⟩
            have b1035 := iv15_10 hS1023.1 ta0 c1034
            obtain ⟨v1036, c1037⟩ : ∃ v, I1016 a0 11 = v := ⟨_, rfl⟩
            obtain ⟨y1038, c1039⟩ : ∃ v, L1018 a0 15 = v := ⟨_, rfl⟩
            obtain ⟨v1040, c1041⟩ : ∃ v, I1016 a0 12 = v := ⟨_, rfl⟩
            obtain ⟨v1042, c1043⟩ : ∃ v, I1016 a0 8 = v := ⟨_, rfl⟩
            have b1044 := iv15_8 hS1023.1 ta0 c1043
            exact ⟨rfl, rfl, rfl, rfl, rfl, hS1023, (fun dr hd => (Option.some.inj (d2.symm.trans hd)) ▸ hO1025), (Or.inr (⟨(by first | done | with_reducible assumption | exact om_7fac24c5 eF), (by (try rw [c1027]); first | done | with_reducible assumption | omega), (by (try rw [c1030]); first | done | with_reducible assumption | exact om_9adad658 p717 p1021 eF), (by (try rw [c1032]); first | done | with_reducible assumption | exact om_3998a42e p718 p1022 eP), trivial⟩)), trivial⟩
          · skip
            obtain ⟨v1045, c1046⟩ : ∃ v, I690 a0 9 = v := ⟨_, rfl⟩
            have b1047 := iv15_9 hS698.1 ta0 c1046
            rw [c1046] at p722
            obtain ⟨v1048, c1049⟩ : ∃ v, I690 a0 13 = v := ⟨_, rfl⟩
            rw [c1049] at p723
            obtain ⟨v1050, c1051⟩ : ∃ v, I690 a0 14 = v := ⟨_, rfl⟩
            rw [c1051] at p724
            replace hF := hF.neg (by exact om_10ed11b5 p720)
            replace hP := hP.neg (by exact om_10ed11b5 p720)
            replace hF := hF.pos (by exact om_41eb13e5 p32 w667 h685 h687 h689 p721)
            replace hP := hP.pos (by exact om_41eb13e5 p32 w667 h685 h687 h689 p721)
            refine tr_istore_n dX12_readEvent_57 (by decide) (by decide) ?_
            refine sf_oE58 hE hZ hS698.1 (gB) ta0 (by (try rw [c1046]); first | done | with_reducible assumption | omega) ⟨_, d2⟩ rfl rfl rfl rfl ?_
            rintro I1052 R1053 L1054 ⟨g1055, p1056, p1057, p1058, -⟩
            obtain rfl : R0 = R1053 := funext fun a => funext fun j => (g1055.2.2 a j (wm_no rfl)).symm
            have hS1059 := hS698.tr g1055 (by decide +kernel) (by decide +kernel)
            have c1060 : I1052 a1 2 = v37 := (g1055.cell ta1 (by decide +kernel)).trans c699
            have hO1061 : FrO 14 a1 T I0 I1052 := hO700.st g1055 (by decide +kernel)
            obtain ⟨v1062, c1063⟩ : ∃ v, I1052 a0 9 = v := ⟨_, rfl⟩
            have b1064 := iv15_9 hS1059.1 ta0 c1063
            rw [c1063] at p1056
            obtain ⟨v1065, c1066⟩ : ∃ v, I1052 a0 13 = v := ⟨_, rfl⟩
            rw [c1066] at p1057
            rw [c1049] at p1057
            obtain ⟨v1067, c1068⟩ : ∃ v, I1052 a0 14 = v := ⟨_, rfl⟩
            rw [c1068] at p1058
            rw [c1051] at p1058
            have eF := hF.eq
            have eP := hP.eq
            obtain ⟨v1069, c1070⟩ : ∃ v, I1052 a0 10 = v := ⟨_, rfl⟩
            have b1071 := iv15_10 hS1059.1 ta0 c1070
            obtain ⟨v1072, c1073⟩ : ∃ v, I1052 a0 11 = v := ⟨_, rfl⟩
            obtain ⟨y1074, c1075⟩ : ∃ v, L1054 a0 15 = v := ⟨_, rfl⟩
            obtain ⟨v1076, c1077⟩ : ∃ v, I1052 a0 12 = v := ⟨_, rfl⟩
            obtain ⟨v1078, c1079⟩ : ∃ v, I1052 a0 8 = v := ⟨_, rfl⟩
            have b1080 := iv15_8 hS1059.1 ta0 c1079
            exact ⟨rfl, rfl, rfl, rfl, rfl, hS1059, (fun dr hd => (Option.some.inj (d2.symm.trans hd)) ▸ hO1061), (Or.inr (⟨(by first | done | with_reducible assumption | exact om_7b84bd42 eF), (by (try rw [c1063]); first | done | with_reducible assumption | omega), (by (try rw [c1066]); first | done | with_reducible assumption | exact om_4510ffdb p723 p1057 eF), (by (try rw [c1068]); first | done | with_reducible assumption | exact om_3998a42e p724 p1058 eP), trivial⟩)), trivial⟩
        · skip
          exfalso; exact om_d00bfee1 pre18 kd66 h680 h681
    · skip
      obtain ⟨v1081, c1082⟩ : ∃ v, I613 a0 9 = v := ⟨_, rfl⟩
      have b1083 := iv15_9 hS621.1 ta0 c1082
      rw [c1082] at p636
      obtain ⟨v1084, c1085⟩ : ∃ v, I613 a0 13 = v := ⟨_, rfl⟩
      rw [c1085] at p637
      obtain ⟨v1086, c1087⟩ : ∃ v, I613 a0 14 = v := ⟨_, rfl⟩
      rw [c1087] at p638
      have p1088 := p61
      unfold Q7M at p1088
      replace hF := hF.pos (by exact om_c551cdd0 pre18 p40 kd66 h612 p635)
      replace hP := hP.pos (by exact om_c551cdd0 pre18 p40 kd66 h612 p635)
      clear p1088
      refine sf_oE13 hE hZ hS621.1 (gB) ta0 (by (try rw [c1082]); first | done | with_reducible assumption | omega) ⟨_, d2⟩ rfl rfl ?_
      rintro I1089 R1090 L1091 ⟨g1092, p1093, p1094, p1095, -⟩
      obtain rfl : R0 = R1090 := funext fun a => funext fun j => (g1092.2.2 a j (wm_no rfl)).symm
      have hS1096 := hS621.tr g1092 (by decide +kernel) (by decide +kernel)
      have c1097 : I1089 a1 2 = v37 := (g1092.cell ta1 (by decide +kernel)).trans c622
      have hO1098 : FrO 14 a1 T I0 I1089 := hO623.st g1092 (by decide +kernel)
      obtain ⟨v1099, c1100⟩ : ∃ v, I1089 a0 9 = v := ⟨_, rfl⟩
      have b1101 := iv15_9 hS1096.1 ta0 c1100
      rw [c1100] at p1093
      obtain ⟨v1102, c1103⟩ : ∃ v, I1089 a0 13 = v := ⟨_, rfl⟩
      rw [c1103] at p1094
      rw [c1085] at p1094
      obtain ⟨v1104, c1105⟩ : ∃ v, I1089 a0 14 = v := ⟨_, rfl⟩
      rw [c1105] at p1095
      rw [c1087] at p1095
      have eF := hF.eq
      have eP := hP.eq
      obtain ⟨v1106, c1107⟩ : ∃ v, I1089 a0 10 = v := ⟨_, rfl⟩
      have b1108 := iv15_10 hS1096.1 ta0 c1107
      obtain ⟨v1109, c1110⟩ : ∃ v, I1089 a0 11 = v := ⟨_, rfl⟩
      obtain ⟨y1111, c1112⟩ : ∃ v, L1091 a0 15 = v := ⟨_, rfl⟩
      obtain ⟨v1113, c1114⟩ : ∃ v, I1089 a0 12 = v := ⟨_, rfl⟩
      obtain ⟨v1115, c1116⟩ : ∃ v, I1089 a0 8 = v := ⟨_, rfl⟩
      have b1117 := iv15_8 hS1096.1 ta0 c1116
      exact ⟨rfl, rfl, rfl, rfl, rfl, hS1096, (fun dr hd => (Option.some.inj (d2.symm.trans hd)) ▸ hO1098), (Or.inr (⟨(by first | done | with_reducible assumption | exact om_64c62efe eF), (by (try rw [c1100]); first | done | with_reducible assumption | omega), (by (try rw [c1103]); first | done | with_reducible assumption | exact om_7fd518bd p637 p1094 eF), (by (try rw [c1105]); first | done | with_reducible assumption | exact om_8e6888af p11 p638 p1095 eP), trivial⟩)), trivial⟩
    · skip
      obtain ⟨v1118, c1119⟩ : ∃ v, I613 a0 9 = v := ⟨_, rfl⟩
      have b1120 := iv15_9 hS621.1 ta0 c1119
      rw [c1119] at p641
      obtain ⟨v1121, c1122⟩ : ∃ v, I613 a0 13 = v := ⟨_, rfl⟩
      rw [c1122] at p642
      obtain ⟨v1123, c1124⟩ : ∃ v, I613 a0 14 = v := ⟨_, rfl⟩
      rw [c1124] at p643
      have p1125 := p61
      unfold Q7M at p1125
      replace hF := hF.neg (by exact om_a5313791 pre18 b39.2 b39.1 p40 kd66 h612 p639 p640 p1125)
      replace hP := hP.neg (by exact om_a5313791 pre18 b39.2 b39.1 p40 kd66 h612 p639 p640 p1125)
      replace hF := hF.pos (by exact om_bc6a640d pre18 kd66 p640 p1125)
      replace hP := hP.pos (by exact om_bc6a640d pre18 kd66 p640 p1125)
      clear p1125
      refine sf_oE13 hE hZ hS621.1 (gB) ta0 (by (try rw [c1119]); first | done | with_reducible assumption | omega) ⟨_, d2⟩ rfl rfl ?_
      rintro I1126 R1127 L1128 ⟨g1129, p1130, p1131, p1132, -⟩
      obtain rfl : R0 = R1127 := funext fun a => funext fun j => (g1129.2.2 a j (wm_no rfl)).symm
      have hS1133 := hS621.tr g1129 (by decide +kernel) (by decide +kernel)
      have c1134 : I1126 a1 2 = v37 := (g1129.cell ta1 (by decide +kernel)).trans c622
      have hO1135 : FrO 14 a1 T I0 I1126 := hO623.st g1129 (by decide +kernel)
      obtain ⟨v1136, c1137⟩ : ∃ v, I1126 a0 9 = v := ⟨_, rfl⟩
      have b1138 := iv15_9 hS1133.1 ta0 c1137
      rw [c1137] at p1130
      obtain ⟨v1139, c1140⟩ : ∃ v, I1126 a0 13 = v := ⟨_, rfl⟩
      rw [c1140] at p1131
      rw [c1122] at p1131
      obtain ⟨v1141, c1142⟩ : ∃ v, I1126 a0 14 = v := ⟨_, rfl⟩
      rw [c1142] at p1132
      rw [c1124] at p1132
      have eF := hF.eq
      have eP := hP.eq
      obtain ⟨v1143, c1144⟩ : ∃ v, I1126 a0 10 = v := ⟨_, rfl⟩
      have b1145 := iv15_10 hS1133.1 ta0 c1144
      obtain ⟨v1146, c1147⟩ : ∃ v, I1126 a0 11 = v := ⟨_, rfl⟩
      obtain ⟨y1148, c1149⟩ : ∃ v, L1128 a0 15 = v := ⟨_, rfl⟩
      obtain ⟨v1150, c1151⟩ : ∃ v, I1126 a0 12 = v := ⟨_, rfl⟩
      obtain ⟨v1152, c1153⟩ : ∃ v, I1126 a0 8 = v := ⟨_, rfl⟩
      have b1154 := iv15_8 hS1133.1 ta0 c1153
      exact ⟨rfl, rfl, rfl, rfl, rfl, hS1133, (fun dr hd => (Option.some.inj (d2.symm.trans hd)) ▸ hO1135), (Or.inr (⟨(by first | done | with_reducible assumption | exact om_3a8e1f7c eF), (by (try rw [c1137]); first | done | with_reducible assumption | omega), (by (try rw [c1140]); first | done | with_reducible assumption | exact om_1428d4dd p642 p1131 eF), (by (try rw [c1142]); first | done | with_reducible assumption | exact om_8e6888af p11 p643 p1132 eP), trivial⟩)), trivial⟩
  · skip
    refine tr_aload_n dX12_readEvent_0 rfl ?_
    refine tr_aload_n dX12_readEvent_1 rfl ?_
    refine tr_getR dX12_readEvent_2 fl12_188 (kR15 hS0.1 ta0) d2 ?_
    refine q_getI dX12_readEvent_5 fl12_265 (kR14 hS0.1 ta1) c38 ?_
    refine q_bipush dX12_readEvent_8 (by decide +kernel) ?_
    intro v1155 h1156
    refine q_callVv hE (M' := mX12_begins) (as := [_, _]) dX12_readEvent_10 lk12_268 inX12_begins seX12_begins myX12_begins (by decide) ⟨by decide, by decide⟩ rfl (kR15 hS0.1 ta0) (Nat.le_of_ble_eq_true rfl) rfl rfl (by decide) (by decide) (fk_X12_begins hS0.1 (gB) (gs) (gQ) ta0 (TxA.kp hT hS0 ta0 rfl rfl rfl (by decide +kernel) (by decide +kernel)) (by (try rw [c4]); first | done | with_reducible assumption | omega) (by (try rw [c4]); first | done | with_reducible assumption | omega) (by (try rw [c9]); first | done | with_reducible assumption | omega) (by (try rw [c13]); first | done | with_reducible assumption | omega) (by (try rw [c16]); first | done | assumption) (by (try rw [c19]); first | done | assumption) (by (try rw [c22]); first | done | assumption) (by (try rw [c26]); first | done | with_reducible assumption | omega) (fun q0 z0 => by obtain rfl := Option.some.inj ((d2).symm.trans z0); (try rw [c30]); first | done | with_reducible assumption | omega) (by first | done | with_reducible assumption | omega) ⟨_, d2⟩) ?_
    rintro cn' K' N' I1157 R1158 L1159 ⟨rfl, rfl, rfl, rfl, g1160, dj1163, -⟩
    have hM1164 : NmM I1157 R0 L0 a1 gQ := NmM.kpS hM0 g1160 hS0.1 ta1 (by decide +kernel) (by decide +kernel)
    have hS1165 := hS0.tr g1160 (by decide +kernel) (by decide +kernel)
    have c1166 : I1157 a1 2 = v37 := (g1160.cell ta1 (by decide +kernel)).trans c38
    have hO1167 : FrO 14 a1 T I0 I1157 := hO0.st g1160 (by decide +kernel)
    rcases dj1163 with ⟨p1168, p1169, p1170, p1171, p1172, p1173, p1174, p1175, p1176, p1177, gl1178, -⟩ | ⟨p1179, p1180, p1181, p1182, -⟩ | ⟨p1183, p1184, p1185, p1186, p1187, -⟩
    · skip
      have hL1188 := hL0.tr gl1178 (by decide +kernel)
      have hM1189 : NmM I1157 R0 L1159 a1 gQ := NmM.kpL hM1164 gl1178 hS1165.1 ta1 (by decide +kernel)
      obtain ⟨v1190, c1191⟩ : ∃ v, I1157 a0 13 = v := ⟨_, rfl⟩
      rw [c1191] at p1170
      rw [c65] at p1170
      obtain ⟨v1192, c1193⟩ : ∃ v, I1157 a0 9 = v := ⟨_, rfl⟩
      have b1194 := iv15_9 hS1165.1 ta0 c1193
      rw [c1193] at p1171
      rw [c1193] at p1172
      obtain ⟨v1195, c1196⟩ : ∃ v, I1157 a0 10 = v := ⟨_, rfl⟩
      have b1197 := iv15_10 hS1165.1 ta0 c1196
      rw [c1196] at p1173
      obtain ⟨v1198, c1199⟩ : ∃ v, I1157 a0 11 = v := ⟨_, rfl⟩
      rw [c1199] at p1174
      obtain ⟨y1200, c1201⟩ : ∃ v, L1159 a0 15 = v := ⟨_, rfl⟩
      rw [c1201] at p1175
      obtain ⟨v1202, c1203⟩ : ∃ v, I1157 a0 12 = v := ⟨_, rfl⟩
      rw [c1203] at p1176
      obtain ⟨v1204, c1205⟩ : ∃ v, I1157 a0 8 = v := ⟨_, rfl⟩
      have b1206 := iv15_8 hS1165.1 ta0 c1205
      rw [c1205] at p1177
      have p1207 := p61
      unfold Q7M at p1207
      replace hF := hF.neg (by exact om_ff21c0d8 pre18 b31.2 b31.1 p32 b39.2 b39.1 p40 kd66 h1156 p1168 p1169 p1207)
      replace hP := hP.neg (by exact om_ff21c0d8 pre18 b31.2 b31.1 p32 b39.2 b39.1 p40 kd66 h1156 p1168 p1169 p1207)
      replace hF := hF.neg (by exact om_c9c36f3e pre18 kd66 p1169 p1207)
      replace hP := hP.neg (by exact om_c9c36f3e pre18 kd66 p1169 p1207)
      clear p1207
      obtain ⟨w1208, w1209, w1210, w1211, w1212, w1213, w1214, w1215, w1216, w1217, w1218, w1219⟩ := lnl_e (B := gB) (Q := gQ) (s := gs) (by exact om_52b49796 pre18 kd66) (by exact om_da85ae01 pre18 kd66)
      replace hF := hF.to w1208 (evF_c2 (B := gB) (Q := gQ) (k := srt gB gs) (s := (tkN gB gs)) (by exact om_3c04cefc pre18 kd66))
      replace hP := hP.to w1209 (evP_c2 (B := gB) (Q := gQ) (k := srt gB gs) (s := (tkN gB gs)) (by exact om_3c04cefc pre18 kd66))
      refine tr_iload_n dX12_readEvent_13 rfl ?_
      refine q_iconst dX12_readEvent_14 (by decide) ?_
      intro v1220 h1221
      refine q_icmp_eq 23 dX12_readEvent_15 (by decide) (fun h1222 => ?_) (fun h1222 => ?_)
      · skip
        refine tr_aload_n dX12_readEvent_23 rfl ?_
        refine q_iconst dX12_readEvent_24 (by decide) ?_
        intro v1223 h1224
        refine tr_aload_n dX12_readEvent_25 rfl ?_
        refine tr_getR dX12_readEvent_26 fl12_188 (kR15 hS1165.1 ta0) d2 ?_
        refine q_getI dX12_readEvent_29 fl12_263 (kR14 hS1165.1 ta1) ((hS1165.cell ta1 (by decide +kernel)).trans c34) ?_
        refine q_iconst dX12_readEvent_32 (by decide) ?_
        intro v1225 h1226
        refine q_isubE dX12_readEvent_33 (by intro j1 j2 j3 j4; exact om_99c1ed93 b35.2 b35.1 p36 w1212 h1226) ?_
        intro v1227 h1228
        refine q_callVi hE (M' := mX12_readWhole) (as := [_, _]) dX12_readEvent_34 lk12_161 inX12_readWhole seX12_readWhole myX12_readWhole (by decide) ⟨by decide, by decide⟩ rfl (kR15 hS1165.1 ta0) (Nat.le_of_ble_eq_true rfl) rfl rfl (by decide) (by decide) (fk_X12_readWhole hS1165.1 (gB) ((tkN gB gs)) ta0 (TxA.kp hT hS1165 ta0 rfl rfl rfl (by decide +kernel) (by decide +kernel)) (by (try rw [c1193]); first | done | with_reducible assumption | omega) (by (try rw [c1193]); first | done | with_reducible assumption | omega) (by (try rw [c1196]); first | done | with_reducible assumption | omega) (by (try rw [c1199]); first | done | with_reducible assumption | omega) (by (try rw [c1201]); first | done | assumption) (by (try rw [c1203]); first | done | assumption) (by (try rw [c1205]); first | done | assumption) (by (try rw [((hS1165.cell ta0 (by decide +kernel)).trans c26)]); first | done | with_reducible assumption | omega)) ?_
        rintro v1234 cn' K' N' I1229 R1230 L1231 ⟨rfl, rfl, rfl, rfl, g1232, dj1235, -⟩
        have hM1236 : NmM I1229 R0 L1159 a1 gQ := NmM.kpS hM1189 g1232 hS1165.1 ta1 (by decide +kernel) (by decide +kernel)
        have hS1237 := hS1165.tr g1232 (by decide +kernel) (by decide +kernel)
        have c1238 : I1229 a1 2 = v37 := (g1232.cell ta1 (by decide +kernel)).trans c1166
        have hO1239 : FrO 14 a1 T I0 I1229 := hO1167.st g1232 (by decide +kernel)
        rcases dj1235 with ⟨p1240, p1241, p1242, p1243, p1244, p1245, p1246, p1247, p1248, p1249, p1250, p1251, gl1252, -⟩ | ⟨p1253, p1254, p1255, p1256, p1257, -⟩ | ⟨p1258, p1259, p1260, p1261, p1262, p1263, -⟩
        · skip
          have hL1264 := hL1188.tr gl1252 (by decide +kernel)
          have hM1265 : NmM I1229 R0 L1231 a1 gQ := NmM.kpL hM1236 gl1252 hS1237.1 ta1 (by decide +kernel)
          obtain ⟨v1266, c1267⟩ : ∃ v, I1229 a0 13 = v := ⟨_, rfl⟩
          rw [c1267] at p1244
          rw [c1191] at p1244
          obtain ⟨v1268, c1269⟩ : ∃ v, I1229 a0 9 = v := ⟨_, rfl⟩
          have b1270 := iv15_9 hS1237.1 ta0 c1269
          rw [c1269] at p1245
          rw [c1269] at p1246
          obtain ⟨v1271, c1272⟩ : ∃ v, I1229 a0 10 = v := ⟨_, rfl⟩
          have b1273 := iv15_10 hS1237.1 ta0 c1272
          rw [c1272] at p1247
          obtain ⟨v1274, c1275⟩ : ∃ v, I1229 a0 11 = v := ⟨_, rfl⟩
          rw [c1275] at p1248
          obtain ⟨y1276, c1277⟩ : ∃ v, L1231 a0 15 = v := ⟨_, rfl⟩
          rw [c1277] at p1249
          obtain ⟨v1278, c1279⟩ : ∃ v, I1229 a0 12 = v := ⟨_, rfl⟩
          rw [c1279] at p1250
          obtain ⟨v1280, c1281⟩ : ∃ v, I1229 a0 8 = v := ⟨_, rfl⟩
          have b1282 := iv15_8 hS1237.1 ta0 c1281
          rw [c1281] at p1251
          replace hF := hF.neg (by exact om_10ed11b5 p1241)
          replace hP := hP.neg (by exact om_10ed11b5 p1241)
          replace hF := hF.neg (by exact om_4062d996 p36 w1212 h1224 h1226 h1228 p1242 p1243)
          replace hP := hP.neg (by exact om_4062d996 p36 w1212 h1224 h1226 h1228 p1242 p1243)
          refine tr_goto 42 dX12_readEvent_37 (by decide) ?_
          refine tr_istore_n dX12_readEvent_42 (by decide) (by decide) ?_
          refine tr_aload_n dX12_readEvent_43 rfl ?_
          refine q_iconst dX12_readEvent_44 (by decide) ?_
          intro v1283 h1284
          refine tr_aload_n dX12_readEvent_45 rfl ?_
          refine tr_getR dX12_readEvent_46 fl12_188 (kR15 hS1237.1 ta0) d2 ?_
          refine q_getI dX12_readEvent_49 fl12_192 (kR14 hS1237.1 ta1) ((hS1237.cell ta1 (by decide +kernel)).trans c30) ?_
          refine q_iconst dX12_readEvent_52 (by decide) ?_
          intro v1285 h1286
          refine q_isubE dX12_readEvent_53 (by intro j1 j2 j3 j4; exact om_6479810f b31.2 b31.1 p32 w1211 h1286) ?_
          intro v1287 h1288
          refine q_callVi hE (M' := mX12_readWhole) (as := [_, _]) dX12_readEvent_54 lk12_161 inX12_readWhole seX12_readWhole myX12_readWhole (by decide) ⟨by decide, by decide⟩ rfl (kR15 hS1237.1 ta0) (Nat.le_of_ble_eq_true rfl) rfl rfl (by decide) (by decide) (fk_X12_readWhole hS1237.1 (gB) ((tkN gB (tkN gB gs))) ta0 (TxA.kp hT hS1237 ta0 rfl rfl rfl (by decide +kernel) (by decide +kernel)) (by (try rw [c1269]); first | done | with_reducible assumption | omega) (by (try rw [c1269]); first | done | with_reducible assumption | omega) (by (try rw [c1272]); first | done | with_reducible assumption | omega) (by (try rw [c1275]); first | done | with_reducible assumption | omega) (by (try rw [c1277]); first | done | assumption) (by (try rw [c1279]); first | done | assumption) (by (try rw [c1281]); first | done | assumption) (by (try rw [((hS1237.cell ta0 (by decide +kernel)).trans c26)]); first | done | with_reducible assumption | omega)) ?_
          rintro v1294 cn' K' N' I1289 R1290 L1291 ⟨rfl, rfl, rfl, rfl, g1292, dj1295, -⟩
          have hM1296 : NmM I1289 R0 L1231 a1 gQ := NmM.kpS hM1265 g1292 hS1237.1 ta1 (by decide +kernel) (by decide +kernel)
          have hS1297 := hS1237.tr g1292 (by decide +kernel) (by decide +kernel)
          have c1298 : I1289 a1 2 = v37 := (g1292.cell ta1 (by decide +kernel)).trans c1238
          have hO1299 : FrO 14 a1 T I0 I1289 := hO1239.st g1292 (by decide +kernel)
          rcases dj1295 with ⟨p1300, p1301, p1302, p1303, p1304, p1305, p1306, p1307, p1308, p1309, p1310, p1311, gl1312, -⟩ | ⟨p1313, p1314, p1315, p1316, p1317, -⟩ | ⟨p1318, p1319, p1320, p1321, p1322, p1323, -⟩
          · skip
            have hL1324 := hL1264.tr gl1312 (by decide +kernel)
            have hM1325 : NmM I1289 R0 L1291 a1 gQ := NmM.kpL hM1296 gl1312 hS1297.1 ta1 (by decide +kernel)
            obtain ⟨v1326, c1327⟩ : ∃ v, I1289 a0 13 = v := ⟨_, rfl⟩
            rw [c1327] at p1304
            rw [c1267] at p1304
            obtain ⟨v1328, c1329⟩ : ∃ v, I1289 a0 9 = v := ⟨_, rfl⟩
            have b1330 := iv15_9 hS1297.1 ta0 c1329
            rw [c1329] at p1305
            rw [c1329] at p1306
            obtain ⟨v1331, c1332⟩ : ∃ v, I1289 a0 10 = v := ⟨_, rfl⟩
            have b1333 := iv15_10 hS1297.1 ta0 c1332
            rw [c1332] at p1307
            obtain ⟨v1334, c1335⟩ : ∃ v, I1289 a0 11 = v := ⟨_, rfl⟩
            rw [c1335] at p1308
            obtain ⟨y1336, c1337⟩ : ∃ v, L1291 a0 15 = v := ⟨_, rfl⟩
            rw [c1337] at p1309
            obtain ⟨v1338, c1339⟩ : ∃ v, I1289 a0 12 = v := ⟨_, rfl⟩
            rw [c1339] at p1310
            obtain ⟨v1340, c1341⟩ : ∃ v, I1289 a0 8 = v := ⟨_, rfl⟩
            have b1342 := iv15_8 hS1297.1 ta0 c1341
            rw [c1341] at p1311
            replace hF := hF.neg (by exact om_10ed11b5 p1301)
            replace hP := hP.neg (by exact om_10ed11b5 p1301)
            replace hF := hF.neg (by exact om_4062d996 p32 w1211 h1284 h1286 h1288 p1302 p1303)
            replace hP := hP.neg (by exact om_4062d996 p32 w1211 h1284 h1286 h1288 p1302 p1303)
            refine tr_istore_n dX12_readEvent_57 (by decide) (by decide) ?_
            refine tr_iload_n dX12_readEvent_58 rfl ?_
            refine q_iconst dX12_readEvent_59 (by decide) ?_
            intro v1343 h1344
            refine q_icmp_ne 69 dX12_readEvent_60 (by decide) (fun h1345 => ?_) (fun h1345 => ?_)
            · skip
              refine tr_aload_n dX12_readEvent_69 rfl ?_
              refine tr_ldcwS dX12_readEvent_70 ld12_272 ?_
              refine tr_iload_n dX12_readEvent_73 rfl ?_
              refine q_iconst dX12_readEvent_74 (by decide) ?_
              intro v1346 h1347
              refine q_iaddE dX12_readEvent_75 (by intro j1 j2 j3 j4; exact om_5e7b6990 b31.2 b31.1 p32 w1211 h1284 h1286 h1288 p1300 p1302 p1303 h1347 j2) ?_
              intro v1348 h1349
              refine tr_aload_n dX12_readEvent_76 rfl ?_
              refine tr_getR dX12_readEvent_77 fl12_188 (kR15 hS1297.1 ta0) d2 ?_
              refine q_getI dX12_readEvent_80 fl12_192 (kR14 hS1297.1 ta1) ((hS1297.cell ta1 (by decide +kernel)).trans c30) ?_
              refine q_callVi hE (M' := mX12_readPart) (as := [_, _, _]) dX12_readEvent_83 lk12_249 inX12_readPart seX12_readPart myX12_readPart (by decide) ⟨by decide, by decide⟩ rfl (kR15 hS1297.1 ta0) (Nat.le_of_ble_eq_true rfl) rfl rfl (by decide) (by decide) (fk_X12_readPart hS1297.1 (gB) ((tkN gB (tkN gB (tkN gB gs)))) ta0 (by decide) (TxA.kp hT hS1297 ta0 rfl rfl rfl (by decide +kernel) (by decide +kernel)) (by (try rw [c1329]); first | done | with_reducible assumption | omega) (by (try rw [c1329]); first | done | with_reducible assumption | omega) (by (try rw [c1332]); first | done | with_reducible assumption | omega) (by (try rw [c1335]); first | done | with_reducible assumption | omega) (by (try rw [c1337]); first | done | assumption) (by (try rw [c1339]); first | done | assumption) (by (try rw [c1341]); first | done | assumption) (by (try rw [((hS1297.cell ta0 (by decide +kernel)).trans c26)]); first | done | with_reducible assumption | omega)) ?_
              rintro v1355 cn' K' N' I1350 R1351 L1352 ⟨rfl, rfl, rfl, rfl, g1353, dj1356, -⟩
              (try rw [pk_25] at dj1356)
              have hM1357 : NmM I1350 R0 L1291 a1 gQ := NmM.kpS hM1325 g1353 hS1297.1 ta1 (by decide +kernel) (by decide +kernel)
              have hS1358 := hS1297.tr g1353 (by decide +kernel) (by decide +kernel)
              have c1359 : I1350 a1 2 = v37 := (g1353.cell ta1 (by decide +kernel)).trans c1298
              have hO1360 : FrO 14 a1 T I0 I1350 := hO1299.st g1353 (by decide +kernel)
              rcases dj1356 with ⟨p1361, p1362, p1363, p1364, p1365, p1366, p1367, p1368, p1369, p1370, p1371, p1372, p1373, p1374, gl1375, -⟩ | ⟨p1376, p1377, p1378, p1379, p1380, -⟩ | ⟨p1381, p1382, p1383, p1384, p1385, p1386, p1387, -⟩ | ⟨p1388, p1389, p1390, p1391, p1392, p1393, p1394, p1395, -⟩
              · skip
                have hL1396 := hL1324.tr gl1375 (by decide +kernel)
                have hM1397 : NmM I1350 R0 L1352 a1 gQ := NmM.kpL hM1357 gl1375 hS1358.1 ta1 (by decide +kernel)
                obtain ⟨v1398, c1399⟩ : ∃ v, I1350 a0 13 = v := ⟨_, rfl⟩
                rw [c1399] at p1367
                rw [c1327] at p1367
                obtain ⟨v1400, c1401⟩ : ∃ v, I1350 a0 9 = v := ⟨_, rfl⟩
                have b1402 := iv15_9 hS1358.1 ta0 c1401
                rw [c1401] at p1368
                rw [c1401] at p1369
                obtain ⟨v1403, c1404⟩ : ∃ v, I1350 a0 10 = v := ⟨_, rfl⟩
                have b1405 := iv15_10 hS1358.1 ta0 c1404
                rw [c1404] at p1370
                obtain ⟨v1406, c1407⟩ : ∃ v, I1350 a0 11 = v := ⟨_, rfl⟩
                rw [c1407] at p1371
                obtain ⟨y1408, c1409⟩ : ∃ v, L1352 a0 15 = v := ⟨_, rfl⟩
                rw [c1409] at p1372
                obtain ⟨v1410, c1411⟩ : ∃ v, I1350 a0 12 = v := ⟨_, rfl⟩
                rw [c1411] at p1373
                obtain ⟨v1412, c1413⟩ : ∃ v, I1350 a0 8 = v := ⟨_, rfl⟩
                have b1414 := iv15_8 hS1358.1 ta0 c1413
                rw [c1413] at p1374
                replace hF := hF.neg (by exact om_04941ac6 p1362 p1363)
                replace hP := hP.neg (by exact om_04941ac6 p1362 p1363)
                replace hF := hF.neg (by exact om_10ed11b5 p1364)
                replace hP := hP.neg (by exact om_10ed11b5 p1364)
                replace hF := hF.neg (by exact om_11a1fbca p32 w1211 h1286 h1288 p1300 h1347 h1349 p1365 p1366)
                replace hP := hP.neg (by exact om_11a1fbca p32 w1211 h1286 h1288 p1300 h1347 h1349 p1365 p1366)
                refine tr_istore dX12_readEvent_86 (by decide) (by decide) ?_
                refine tr_aload_n dX12_readEvent_88 rfl ?_
                refine q_getI dX12_readEvent_89 fl12_99 (kR15 hS1358.1 ta0) c1401 ?_
                refine q_iconst dX12_readEvent_92 (by decide) ?_
                intro v1415 h1416
                refine q_icmp_ne 97 dX12_readEvent_93 (by decide) (fun h1417 => ?_) (fun h1417 => ?_)
                · skip
                  refine tr_aload_n dX12_readEvent_97 rfl ?_
                  refine tr_getR dX12_readEvent_98 fl12_188 (kR15 hS1358.1 ta0) d2 ?_
                  refine q_getI dX12_readEvent_101 fl12_265 (kR14 hS1358.1 ta1) c1359 ?_
                  refine tr_istore dX12_readEvent_104 (by decide) (by decide) ?_
                  refine tr_aload_n dX12_readEvent_106 rfl ?_
                  refine tr_getR dX12_readEvent_107 fl12_188 (kR15 hS1358.1 ta0) d2 ?_
                  obtain ⟨a1418, d1419, ta1418⟩ := rf14_11 hW0 ta1
                  refine tr_getR dX12_readEvent_110 fl12_274 (kR14 hS1358.1 ta1) d1419 ?_
                  refine tr_iload dX12_readEvent_113 rfl ?_
                  refine tr_iload_n dX12_readEvent_115 rfl ?_
                  refine q_iastX dX12_readEvent_116 (kR54 hS1358.1 ta1418) (ti_in (nR54 hS1358.1 ta1418) (by exact om_b14f9e1e b39.2 b39.1 p40 w1213) (by exact om_a14b760a pre18 b31.2 b31.1 p32 b39.2 b39.1 p40 kd66 h1156 p1168 p1169 w1211 w1213 h1286 h1288 h1344 h1345 p1369 p1368 b1402.1 h1416 h1417)) hS1358 ta1418 (by rfl) (hS1358.1.putK (m := a1) ta1 d1419 (by rw [c1359]; exact Int.le_of_eq (ti_nat (by exact om_b14f9e1e b39.2 b39.1 p40 w1213)).symm)) ?_
                  intro I1424 hS1425 e1426 f1427
                  have c1428 : I1424 a1 2 = v37 := (f1427 _ _ (fun q => by have z := ta1; rw [q.1, ta1418] at z; exact absurd z (by decide))).trans c1359
                  have c1429 : I1424 a0 13 = v1398 := (f1427 _ _ (fun q => by have z := ta0; rw [q.1, ta1418] at z; exact absurd z (by decide))).trans c1399
                  have c1430 : I1424 a0 9 = v1400 := (f1427 _ _ (fun q => by have z := ta0; rw [q.1, ta1418] at z; exact absurd z (by decide))).trans c1401
                  have c1431 : I1424 a0 10 = v1403 := (f1427 _ _ (fun q => by have z := ta0; rw [q.1, ta1418] at z; exact absurd z (by decide))).trans c1404
                  have c1432 : I1424 a0 11 = v1406 := (f1427 _ _ (fun q => by have z := ta0; rw [q.1, ta1418] at z; exact absurd z (by decide))).trans c1407
                  have c1433 : I1424 a0 12 = v1410 := (f1427 _ _ (fun q => by have z := ta0; rw [q.1, ta1418] at z; exact absurd z (by decide))).trans c1411
                  have c1434 : I1424 a0 8 = v1412 := (f1427 _ _ (fun q => by have z := ta0; rw [q.1, ta1418] at z; exact absurd z (by decide))).trans c1413
                  have hO1435 : FrO 14 a1 T I0 I1424 := hO1360.put f1427 ta1418 (Or.inl (by decide))
                  have hM1436 : NmM I1424 R0 L1352 a1 gQ := NmM.kp1 hM1397 f1427 ta1418 rfl rfl hS1358.1 ta1
                  refine tr_aload_n dX12_readEvent_117 rfl ?_
                  refine tr_getR dX12_readEvent_118 fl12_188 (kR15 hS1425.1 ta0) d2 ?_
                  obtain ⟨a1437, d1438, ta1437⟩ := rf14_12 hW0 ta1
                  refine tr_getR dX12_readEvent_121 fl12_277 (kR14 hS1425.1 ta1) d1438 ?_
                  refine tr_iload dX12_readEvent_124 rfl ?_
                  refine tr_iload_n dX12_readEvent_126 rfl ?_
                  refine q_iastX dX12_readEvent_127 (kR55 hS1425.1 ta1437) (ti_in (nR55 hS1425.1 ta1437) (by exact om_b14f9e1e b39.2 b39.1 p40 w1213) (by exact om_a14b760a pre18 b31.2 b31.1 p32 b39.2 b39.1 p40 kd66 h1156 p1168 p1169 w1211 w1213 h1286 h1288 h1344 h1345 p1369 p1368 b1402.1 h1416 h1417)) hS1425 ta1437 (by rfl) (hS1425.1.putH (m := a1) ta1 d1438 (by rw [c1428]; exact Int.le_of_eq (ti_nat (by exact om_b14f9e1e b39.2 b39.1 p40 w1213)).symm) (by exact om_3e0e6c99 b35.2 b35.1 p36 w1212 h1224 h1226 h1228 p1240 p1242 p1243)) ?_
                  intro I1443 hS1444 e1445 f1446
                  have c1447 : I1443 a1 2 = v37 := (f1446 _ _ (fun q => by have z := ta1; rw [q.1, ta1437] at z; exact absurd z (by decide))).trans c1428
                  have c1448 : I1443 a0 13 = v1398 := (f1446 _ _ (fun q => by have z := ta0; rw [q.1, ta1437] at z; exact absurd z (by decide))).trans c1429
                  have c1449 : I1443 a0 9 = v1400 := (f1446 _ _ (fun q => by have z := ta0; rw [q.1, ta1437] at z; exact absurd z (by decide))).trans c1430
                  have c1450 : I1443 a0 10 = v1403 := (f1446 _ _ (fun q => by have z := ta0; rw [q.1, ta1437] at z; exact absurd z (by decide))).trans c1431
                  have c1451 : I1443 a0 11 = v1406 := (f1446 _ _ (fun q => by have z := ta0; rw [q.1, ta1437] at z; exact absurd z (by decide))).trans c1432
                  have c1452 : I1443 a0 12 = v1410 := (f1446 _ _ (fun q => by have z := ta0; rw [q.1, ta1437] at z; exact absurd z (by decide))).trans c1433
                  have c1453 : I1443 a0 8 = v1412 := (f1446 _ _ (fun q => by have z := ta0; rw [q.1, ta1437] at z; exact absurd z (by decide))).trans c1434
                  have c1454 : I1443 a1418 v37.toNatClampNeg = x1 := (f1446 _ _ (fun q => by have z := ta1418; rw [q.1, ta1437] at z; exact absurd z (by decide))).trans e1426
                  have hO1455 : FrO 14 a1 T I0 I1443 := hO1435.put f1446 ta1437 (Or.inl (by decide))
                  have hM1456 : NmM I1443 R0 L1352 a1 gQ := NmM.kp1 hM1436 f1446 ta1437 rfl rfl hS1425.1 ta1
                  refine tr_aload_n dX12_readEvent_128 rfl ?_
                  refine tr_getR dX12_readEvent_129 fl12_188 (kR15 hS1444.1 ta0) d2 ?_
                  obtain ⟨a1457, d1458, ta1457⟩ := rf14_13 hW0 ta1
                  refine tr_getR dX12_readEvent_132 fl12_280 (kR14 hS1444.1 ta1) d1458 ?_
                  refine tr_iload dX12_readEvent_135 rfl ?_
                  refine tr_iload_n dX12_readEvent_137 rfl ?_
                  refine q_iast dX12_readEvent_138 (kR56 hS1444.1 ta1457) (ti_in (nR56 hS1444.1 ta1457) (by exact om_b14f9e1e b39.2 b39.1 p40 w1213) (by exact om_a14b760a pre18 b31.2 b31.1 p32 b39.2 b39.1 p40 kd66 h1156 p1168 p1169 w1211 w1213 h1286 h1288 h1344 h1345 p1369 p1368 b1402.1 h1416 h1417)) hS1444 ta1457 (by show (0 : Int) ≤ v1294.toInt ∧ v1294.toInt ≤ (240 : Int); exact om_b25ef162 b31.2 b31.1 p32 w1211 h1284 h1286 h1288 p1300 p1302 h1347 h1349 p1365 p1366) rfl (by rfl) ?_
                  intro I1459 hS1460 e1462 f1461
                  have c1463 : I1459 a1 2 = v37 := (f1461 _ _ (fun q => by have z := ta1; rw [q.1, ta1457] at z; exact absurd z (by decide))).trans c1447
                  have c1464 : I1459 a0 13 = v1398 := (f1461 _ _ (fun q => by have z := ta0; rw [q.1, ta1457] at z; exact absurd z (by decide))).trans c1448
                  have c1465 : I1459 a0 9 = v1400 := (f1461 _ _ (fun q => by have z := ta0; rw [q.1, ta1457] at z; exact absurd z (by decide))).trans c1449
                  have c1466 : I1459 a0 10 = v1403 := (f1461 _ _ (fun q => by have z := ta0; rw [q.1, ta1457] at z; exact absurd z (by decide))).trans c1450
                  have c1467 : I1459 a0 11 = v1406 := (f1461 _ _ (fun q => by have z := ta0; rw [q.1, ta1457] at z; exact absurd z (by decide))).trans c1451
                  have c1468 : I1459 a0 12 = v1410 := (f1461 _ _ (fun q => by have z := ta0; rw [q.1, ta1457] at z; exact absurd z (by decide))).trans c1452
                  have c1469 : I1459 a0 8 = v1412 := (f1461 _ _ (fun q => by have z := ta0; rw [q.1, ta1457] at z; exact absurd z (by decide))).trans c1453
                  have c1470 : I1459 a1418 v37.toNatClampNeg = x1 := (f1461 _ _ (fun q => by have z := ta1418; rw [q.1, ta1457] at z; exact absurd z (by decide))).trans c1454
                  have c1471 : I1459 a1437 v37.toNatClampNeg = v1234 := (f1461 _ _ (fun q => by have z := ta1437; rw [q.1, ta1457] at z; exact absurd z (by decide))).trans e1445
                  have hO1472 : FrO 14 a1 T I0 I1459 := hO1455.put f1461 ta1457 (Or.inl (by decide))
                  have hM1473 : NmM I1459 R0 L1352 a1 gQ := NmM.kp1 hM1456 f1461 ta1457 rfl rfl hS1444.1 ta1
                  refine tr_aload_n dX12_readEvent_139 rfl ?_
                  refine tr_getR dX12_readEvent_140 fl12_188 (kR15 hS1460.1 ta0) d2 ?_
                  obtain ⟨a1474, d1475, ta1474⟩ := rf14_14 hW0 ta1
                  refine tr_getR dX12_readEvent_143 fl12_283 (kR14 hS1460.1 ta1) d1475 ?_
                  refine tr_iload dX12_readEvent_146 rfl ?_
                  refine tr_iload dX12_readEvent_148 rfl ?_
                  refine q_iast dX12_readEvent_150 (kR57 hS1460.1 ta1474) (ti_in (nR57 hS1460.1 ta1474) (by exact om_b14f9e1e b39.2 b39.1 p40 w1213) (by exact om_a14b760a pre18 b31.2 b31.1 p32 b39.2 b39.1 p40 kd66 h1156 p1168 p1169 w1211 w1213 h1286 h1288 h1344 h1345 p1369 p1368 b1402.1 h1416 h1417)) hS1460 ta1474 (by show (0 : Int) ≤ v1355.toInt ∧ v1355.toInt ≤ (240 : Int); exact om_6c1edee8 b31.2 b31.1 p32 w1211 h1284 h1286 h1288 p1300 p1302 h1347 h1349 p1361 p1365 p1366) rfl (by rfl) ?_
                  intro I1476 hS1477 e1479 f1478
                  have c1480 : I1476 a1 2 = v37 := (f1478 _ _ (fun q => by have z := ta1; rw [q.1, ta1474] at z; exact absurd z (by decide))).trans c1463
                  have c1481 : I1476 a0 13 = v1398 := (f1478 _ _ (fun q => by have z := ta0; rw [q.1, ta1474] at z; exact absurd z (by decide))).trans c1464
                  have c1482 : I1476 a0 9 = v1400 := (f1478 _ _ (fun q => by have z := ta0; rw [q.1, ta1474] at z; exact absurd z (by decide))).trans c1465
                  have c1483 : I1476 a0 10 = v1403 := (f1478 _ _ (fun q => by have z := ta0; rw [q.1, ta1474] at z; exact absurd z (by decide))).trans c1466
                  have c1484 : I1476 a0 11 = v1406 := (f1478 _ _ (fun q => by have z := ta0; rw [q.1, ta1474] at z; exact absurd z (by decide))).trans c1467
                  have c1485 : I1476 a0 12 = v1410 := (f1478 _ _ (fun q => by have z := ta0; rw [q.1, ta1474] at z; exact absurd z (by decide))).trans c1468
                  have c1486 : I1476 a0 8 = v1412 := (f1478 _ _ (fun q => by have z := ta0; rw [q.1, ta1474] at z; exact absurd z (by decide))).trans c1469
                  have c1487 : I1476 a1418 v37.toNatClampNeg = x1 := (f1478 _ _ (fun q => by have z := ta1418; rw [q.1, ta1474] at z; exact absurd z (by decide))).trans c1470
                  have c1488 : I1476 a1437 v37.toNatClampNeg = v1234 := (f1478 _ _ (fun q => by have z := ta1437; rw [q.1, ta1474] at z; exact absurd z (by decide))).trans c1471
                  have hO1489 : FrO 14 a1 T I0 I1476 := hO1472.put f1478 ta1474 (Or.inl (by decide))
                  have hM1490 : NmM I1476 R0 L1352 a1 gQ := NmM.kp1 hM1473 f1478 ta1474 rfl rfl hS1460.1 ta1
                  refine tr_aload_n dX12_readEvent_151 rfl ?_
                  refine tr_getR dX12_readEvent_152 fl12_188 (kR15 hS1477.1 ta0) d2 ?_
                  refine tr_dup dX12_readEvent_155 rfl ?_
                  refine q_getI dX12_readEvent_156 fl12_265 (kR14 hS1477.1 ta1) c1480 ?_
                  refine q_iconst dX12_readEvent_159 (by decide) ?_
                  intro v1491 h1492
                  refine q_iaddE dX12_readEvent_160 (by intro j1 j2 j3 j4; exact om_a5745fee b39.2 b39.1 p40 w1213 h1492) ?_
                  intro v1493 h1494
                  refine q_putX dX12_readEvent_161 fl12_265 (kR14 hS1477.1 ta1) (Or.inl rfl) hS1477 ta1 (by decide +kernel) (hS1477.1.putE (i := v37.toNatClampNeg) ta1 d1419 d1438 (by rw [c1480]; exact (ti_nat (by exact om_74bf4760 b39.2 b39.1 p40 w1213 h1492 h1494)).symm) (by rw [c1480]; exact om_5a680f8c p40 w1213 h1492 h1494) (by exact om_07899a5e pre18 b31.2 b31.1 p32 b39.2 b39.1 p40 kd66 h1156 p1168 p1169 w1211 w1213 h1286 h1288 h1344 h1345 p1369 p1368 b1402.1 h1416 h1417 h1492 h1494) (by rw [c1487, c1488]; exact om_30d49bde h1224 p1240 p1242)) ?_
                  intro I1495 hS1496 e1497 f1498
                  have c1499 : I1495 a0 13 = v1398 := (f1498 _ _ (fun q => absurd q.2 (by decide))).trans c1481
                  have c1500 : I1495 a0 9 = v1400 := (f1498 _ _ (fun q => absurd q.2 (by decide))).trans c1482
                  have c1501 : I1495 a0 10 = v1403 := (f1498 _ _ (fun q => absurd q.2 (by decide))).trans c1483
                  have c1502 : I1495 a0 11 = v1406 := (f1498 _ _ (fun q => absurd q.2 (by decide))).trans c1484
                  have c1503 : I1495 a0 12 = v1410 := (f1498 _ _ (fun q => absurd q.2 (by decide))).trans c1485
                  have c1504 : I1495 a0 8 = v1412 := (f1498 _ _ (fun q => absurd q.2 (by decide))).trans c1486
                  have c1505 : I1495 a1418 v37.toNatClampNeg = x1 := (f1498 _ _ (fun q => by have z := ta1418; rw [q.1, ta1] at z; exact absurd z (by decide))).trans c1487
                  have c1506 : I1495 a1437 v37.toNatClampNeg = v1234 := (f1498 _ _ (fun q => by have z := ta1437; rw [q.1, ta1] at z; exact absurd z (by decide))).trans c1488
                  have hO1507 : FrO 14 a1 T I0 I1495 := hO1489.put f1498 ta1 (Or.inr rfl)
                  have hM1508 : NmM I1495 R0 L1352 a1 gQ := NmM.kp1 hM1490 f1498 ta1 rfl rfl hS1477.1 ta1
                  have eF := hF.eq
                  have eP := hP.eq
                  have es1509 := evS_c2 (B := gB) (Q := gQ) (k := srt gB gs) (s := (tkN gB gs)) (by exact om_3c04cefc pre18 kd66)
                  obtain ⟨v1510, c1511⟩ : ∃ v, I1495 a0 14 = v := ⟨_, rfl⟩
                  exact tr_vret hZ dX12_readEvent_164 rfl (by decide) (by decide) ⟨rfl, rfl, rfl, rfl, rfl, hS1496, (fun dr hd => (Option.some.inj (d2.symm.trans hd)) ▸ hO1507), (Or.inl ⟨(by (try rw [w1210]); (try rw [es1509]); first | done | with_reducible assumption | omega), (fun q0 z0 => by obtain rfl := Option.some.inj ((d2).symm.trans z0); (try rw [w1210]); (try rw [es1509]); (try rw [((hS1496.cell ta1 (by decide +kernel)).trans c30)]); first | done | with_reducible assumption | exact om_2757374c p32 w1211), (fun q0 z0 => by obtain rfl := Option.some.inj ((d2).symm.trans z0); (try rw [w1210]); (try rw [es1509]); (try rw [((hS1496.cell ta1 (by decide +kernel)).trans c34)]); first | done | with_reducible assumption | exact om_2757374c p36 w1212), (fun q0 z0 => by obtain rfl := Option.some.inj ((d2).symm.trans z0); (try rw [w1210]); (try rw [es1509]); (try rw [e1497]); first | done | with_reducible assumption | exact om_7149e5be p40 w1213 h1492 h1494), (fun q0 z0 => by obtain rfl := Option.some.inj ((d2).symm.trans z0); (try rw [w1210]); (try rw [es1509]); (try rw [((hS1496.cell ta1 (by decide +kernel)).trans c42)]); first | done | with_reducible assumption | exact om_2757374c p44 w1214), (fun q0 z0 => by obtain rfl := Option.some.inj ((d2).symm.trans z0); (try rw [w1210]); (try rw [es1509]); (try rw [((hS1496.cell ta1 (by decide +kernel)).trans c46)]); first | done | with_reducible assumption | exact om_2757374c p48 w1215), (fun q0 z0 => by obtain rfl := Option.some.inj ((d2).symm.trans z0); (try rw [w1210]); (try rw [es1509]); (try rw [((hS1496.cell ta1 (by decide +kernel)).trans c50)]); first | done | with_reducible assumption | exact om_2757374c p52 w1216), (fun q0 z0 => by obtain rfl := Option.some.inj ((d2).symm.trans z0); (try rw [w1210]); (try rw [es1509]); (try rw [((hS1496.cell ta1 (by decide +kernel)).trans c54)]); first | done | with_reducible assumption | exact om_2757374c p56 w1217), (fun q0 z0 => by obtain rfl := Option.some.inj ((d2).symm.trans z0); (try rw [w1210]); (try rw [es1509]); (try rw [((hS1496.cell ta1 (by decide +kernel)).trans c58)]); first | done | with_reducible assumption | exact om_2757374c p60 w1219), (by (try rw [w1210]); (try rw [es1509]); (try rw [c1499]); (try rw [c65]); first | done | with_reducible assumption | exact om_751d021b p1170 p1244 p1304 p1367), (by (try rw [w1210]); (try rw [es1509]); (try rw [c1500]); first | done | with_reducible assumption | omega), (by (try rw [w1210]); (try rw [es1509]); (try rw [c1500]); first | done | with_reducible assumption | omega), (by (try rw [w1210]); (try rw [es1509]); (try rw [c1501]); first | done | with_reducible assumption | omega), (by (try rw [w1210]); (try rw [es1509]); (try rw [c1502]); first | done | with_reducible assumption | omega), (by (try rw [w1210]); (try rw [es1509]); (try rw [c1409]); first | done | assumption), (by (try rw [w1210]); (try rw [es1509]); (try rw [c1503]); first | done | assumption), (by (try rw [w1210]); (try rw [es1509]); (try rw [c1504]); first | done | assumption), hL1396, (fun b hb => (Option.some.inj (d2.symm.trans hb)) ▸ NmM.ln (NmM.bd (k := srt gB gs) hM1508 (by exact om_1345a5e6 pre18 kd66) (by exact om_05376095 pre18 kd66)) rfl), trivial⟩), trivial⟩
                · skip
                  exfalso; exact om_99cda0b7 p1369 p1368 b1402.1 h1416 h1417
              · skip
                obtain ⟨v1512, c1513⟩ : ∃ v, I1350 a0 9 = v := ⟨_, rfl⟩
                have b1514 := iv15_9 hS1358.1 ta0 c1513
                rw [c1513] at p1378
                obtain ⟨v1515, c1516⟩ : ∃ v, I1350 a0 13 = v := ⟨_, rfl⟩
                rw [c1516] at p1379
                obtain ⟨v1517, c1518⟩ : ∃ v, I1350 a0 14 = v := ⟨_, rfl⟩
                rw [c1518] at p1380
                replace hF := hF.pos (by exact om_5c733ef2 p1377)
                replace hP := hP.pos (by exact om_5c733ef2 p1377)
                refine tr_istore dX12_readEvent_86 (by decide) (by decide) ?_
                refine sf_oE88 hE hZ hS1358.1 (gB) ta0 (by (try rw [c1513]); first | done | with_reducible assumption | omega) ⟨_, d2⟩ rfl rfl rfl rfl rfl ?_
                rintro I1519 R1520 L1521 ⟨g1522, p1523, p1524, p1525, -⟩
                obtain rfl : R0 = R1520 := funext fun a => funext fun j => (g1522.2.2 a j (wm_no rfl)).symm
                have hS1526 := hS1358.tr g1522 (by decide +kernel) (by decide +kernel)
                have c1527 : I1519 a1 2 = v37 := (g1522.cell ta1 (by decide +kernel)).trans c1359
                have c1528 : I1519 a0 9 = v1512 := (g1522.cell ta0 (by decide +kernel)).trans c1513
                have c1529 : I1519 a0 13 = v1515 := (g1522.cell ta0 (by decide +kernel)).trans c1516
                have c1530 : I1519 a0 14 = v1517 := (g1522.cell ta0 (by decide +kernel)).trans c1518
                have hO1531 : FrO 14 a1 T I0 I1519 := hO1360.st g1522 (by decide +kernel)
                rw [c1528] at p1523
                rw [c1529] at p1524
                rw [c1516] at p1524
                rw [c1530] at p1525
                rw [c1518] at p1525
                have eF := hF.eq
                have eP := hP.eq
                obtain ⟨v1532, c1533⟩ : ∃ v, I1519 a0 10 = v := ⟨_, rfl⟩
                have b1534 := iv15_10 hS1526.1 ta0 c1533
                obtain ⟨v1535, c1536⟩ : ∃ v, I1519 a0 11 = v := ⟨_, rfl⟩
                obtain ⟨y1537, c1538⟩ : ∃ v, L1521 a0 15 = v := ⟨_, rfl⟩
                obtain ⟨v1539, c1540⟩ : ∃ v, I1519 a0 12 = v := ⟨_, rfl⟩
                obtain ⟨v1541, c1542⟩ : ∃ v, I1519 a0 8 = v := ⟨_, rfl⟩
                have b1543 := iv15_8 hS1526.1 ta0 c1542
                exact ⟨rfl, rfl, rfl, rfl, rfl, hS1526, (fun dr hd => (Option.some.inj (d2.symm.trans hd)) ▸ hO1531), (Or.inr (⟨(by first | done | with_reducible assumption | exact om_7fac24c5 eF), (by (try rw [c1528]); first | done | with_reducible assumption | omega), (by (try rw [c1529]); first | done | with_reducible assumption | exact om_3345b898 p1379 eF), (by (try rw [c1530]); first | done | with_reducible assumption | exact om_2757374c p1380 eP), trivial⟩)), trivial⟩
              · skip
                obtain ⟨v1544, c1545⟩ : ∃ v, I1350 a0 9 = v := ⟨_, rfl⟩
                have b1546 := iv15_9 hS1358.1 ta0 c1545
                rw [c1545] at p1385
                obtain ⟨v1547, c1548⟩ : ∃ v, I1350 a0 13 = v := ⟨_, rfl⟩
                rw [c1548] at p1386
                obtain ⟨v1549, c1550⟩ : ∃ v, I1350 a0 14 = v := ⟨_, rfl⟩
                rw [c1550] at p1387
                replace hF := hF.neg (by exact om_04941ac6 p1382 p1383)
                replace hP := hP.neg (by exact om_04941ac6 p1382 p1383)
                replace hF := hF.pos (by exact om_73cc8e29 p1384)
                replace hP := hP.pos (by exact om_73cc8e29 p1384)
                refine tr_istore dX12_readEvent_86 (by decide) (by decide) ?_
                refine sf_oE88 hE hZ hS1358.1 (gB) ta0 (by (try rw [c1545]); first | done | with_reducible assumption | omega) ⟨_, d2⟩ rfl rfl rfl rfl rfl ?_
                rintro I1551 R1552 L1553 ⟨g1554, p1555, p1556, p1557, -⟩
                obtain rfl : R0 = R1552 := funext fun a => funext fun j => (g1554.2.2 a j (wm_no rfl)).symm
                have hS1558 := hS1358.tr g1554 (by decide +kernel) (by decide +kernel)
                have c1559 : I1551 a1 2 = v37 := (g1554.cell ta1 (by decide +kernel)).trans c1359
                have c1560 : I1551 a0 9 = v1544 := (g1554.cell ta0 (by decide +kernel)).trans c1545
                have c1561 : I1551 a0 13 = v1547 := (g1554.cell ta0 (by decide +kernel)).trans c1548
                have c1562 : I1551 a0 14 = v1549 := (g1554.cell ta0 (by decide +kernel)).trans c1550
                have hO1563 : FrO 14 a1 T I0 I1551 := hO1360.st g1554 (by decide +kernel)
                rw [c1560] at p1555
                rw [c1561] at p1556
                rw [c1548] at p1556
                rw [c1562] at p1557
                rw [c1550] at p1557
                have eF := hF.eq
                have eP := hP.eq
                obtain ⟨v1564, c1565⟩ : ∃ v, I1551 a0 10 = v := ⟨_, rfl⟩
                have b1566 := iv15_10 hS1558.1 ta0 c1565
                obtain ⟨v1567, c1568⟩ : ∃ v, I1551 a0 11 = v := ⟨_, rfl⟩
                obtain ⟨y1569, c1570⟩ : ∃ v, L1553 a0 15 = v := ⟨_, rfl⟩
                obtain ⟨v1571, c1572⟩ : ∃ v, I1551 a0 12 = v := ⟨_, rfl⟩
                obtain ⟨v1573, c1574⟩ : ∃ v, I1551 a0 8 = v := ⟨_, rfl⟩
                have b1575 := iv15_8 hS1558.1 ta0 c1574
                exact ⟨rfl, rfl, rfl, rfl, rfl, hS1558, (fun dr hd => (Option.some.inj (d2.symm.trans hd)) ▸ hO1563), (Or.inr (⟨(by first | done | with_reducible assumption | exact om_7fac24c5 eF), (by (try rw [c1560]); first | done | with_reducible assumption | omega), (by (try rw [c1561]); first | done | with_reducible assumption | exact om_3345b898 p1386 eF), (by (try rw [c1562]); first | done | with_reducible assumption | exact om_2757374c p1387 eP), trivial⟩)), trivial⟩
              · skip
                obtain ⟨v1576, c1577⟩ : ∃ v, I1350 a0 9 = v := ⟨_, rfl⟩
                have b1578 := iv15_9 hS1358.1 ta0 c1577
                rw [c1577] at p1393
                obtain ⟨v1579, c1580⟩ : ∃ v, I1350 a0 13 = v := ⟨_, rfl⟩
                rw [c1580] at p1394
                obtain ⟨v1581, c1582⟩ : ∃ v, I1350 a0 14 = v := ⟨_, rfl⟩
                rw [c1582] at p1395
                replace hF := hF.neg (by exact om_04941ac6 p1389 p1390)
                replace hP := hP.neg (by exact om_04941ac6 p1389 p1390)
                replace hF := hF.neg (by exact om_10ed11b5 p1391)
                replace hP := hP.neg (by exact om_10ed11b5 p1391)
                replace hF := hF.pos (by exact om_ecc016f6 p32 w1211 h1286 h1288 p1300 h1347 h1349 p1392)
                replace hP := hP.pos (by exact om_ecc016f6 p32 w1211 h1286 h1288 p1300 h1347 h1349 p1392)
                refine tr_istore dX12_readEvent_86 (by decide) (by decide) ?_
                refine sf_oE88 hE hZ hS1358.1 (gB) ta0 (by (try rw [c1577]); first | done | with_reducible assumption | omega) ⟨_, d2⟩ rfl rfl rfl rfl rfl ?_
                rintro I1583 R1584 L1585 ⟨g1586, p1587, p1588, p1589, -⟩
                obtain rfl : R0 = R1584 := funext fun a => funext fun j => (g1586.2.2 a j (wm_no rfl)).symm
                have hS1590 := hS1358.tr g1586 (by decide +kernel) (by decide +kernel)
                have c1591 : I1583 a1 2 = v37 := (g1586.cell ta1 (by decide +kernel)).trans c1359
                have c1592 : I1583 a0 9 = v1576 := (g1586.cell ta0 (by decide +kernel)).trans c1577
                have c1593 : I1583 a0 13 = v1579 := (g1586.cell ta0 (by decide +kernel)).trans c1580
                have c1594 : I1583 a0 14 = v1581 := (g1586.cell ta0 (by decide +kernel)).trans c1582
                have hO1595 : FrO 14 a1 T I0 I1583 := hO1360.st g1586 (by decide +kernel)
                rw [c1592] at p1587
                rw [c1593] at p1588
                rw [c1580] at p1588
                rw [c1594] at p1589
                rw [c1582] at p1589
                have eF := hF.eq
                have eP := hP.eq
                obtain ⟨v1596, c1597⟩ : ∃ v, I1583 a0 10 = v := ⟨_, rfl⟩
                have b1598 := iv15_10 hS1590.1 ta0 c1597
                obtain ⟨v1599, c1600⟩ : ∃ v, I1583 a0 11 = v := ⟨_, rfl⟩
                obtain ⟨y1601, c1602⟩ : ∃ v, L1585 a0 15 = v := ⟨_, rfl⟩
                obtain ⟨v1603, c1604⟩ : ∃ v, I1583 a0 12 = v := ⟨_, rfl⟩
                obtain ⟨v1605, c1606⟩ : ∃ v, I1583 a0 8 = v := ⟨_, rfl⟩
                have b1607 := iv15_8 hS1590.1 ta0 c1606
                exact ⟨rfl, rfl, rfl, rfl, rfl, hS1590, (fun dr hd => (Option.some.inj (d2.symm.trans hd)) ▸ hO1595), (Or.inr (⟨(by first | done | with_reducible assumption | exact om_7b84bd42 eF), (by (try rw [c1592]); first | done | with_reducible assumption | omega), (by (try rw [c1593]); first | done | with_reducible assumption | exact om_46d5da87 p1394 eF), (by (try rw [c1594]); first | done | with_reducible assumption | exact om_2757374c p1395 eP), trivial⟩)), trivial⟩
            · skip
              exfalso; exact om_be33a1ce pre18 kd66 h1344 h1345
          · skip
            obtain ⟨v1608, c1609⟩ : ∃ v, I1289 a0 9 = v := ⟨_, rfl⟩
            have b1610 := iv15_9 hS1297.1 ta0 c1609
            rw [c1609] at p1315
            obtain ⟨v1611, c1612⟩ : ∃ v, I1289 a0 13 = v := ⟨_, rfl⟩
            rw [c1612] at p1316
            obtain ⟨v1613, c1614⟩ : ∃ v, I1289 a0 14 = v := ⟨_, rfl⟩
            rw [c1614] at p1317
            replace hF := hF.pos (by exact om_73cc8e29 p1314)
            replace hP := hP.pos (by exact om_73cc8e29 p1314)
            refine tr_istore_n dX12_readEvent_57 (by decide) (by decide) ?_
            refine sf_oE58 hE hZ hS1297.1 (gB) ta0 (by (try rw [c1609]); first | done | with_reducible assumption | omega) ⟨_, d2⟩ rfl rfl rfl rfl ?_
            rintro I1615 R1616 L1617 ⟨g1618, p1619, p1620, p1621, -⟩
            obtain rfl : R0 = R1616 := funext fun a => funext fun j => (g1618.2.2 a j (wm_no rfl)).symm
            have hS1622 := hS1297.tr g1618 (by decide +kernel) (by decide +kernel)
            have c1623 : I1615 a1 2 = v37 := (g1618.cell ta1 (by decide +kernel)).trans c1298
            have hO1624 : FrO 14 a1 T I0 I1615 := hO1299.st g1618 (by decide +kernel)
            obtain ⟨v1625, c1626⟩ : ∃ v, I1615 a0 9 = v := ⟨_, rfl⟩
            have b1627 := iv15_9 hS1622.1 ta0 c1626
            rw [c1626] at p1619
            obtain ⟨v1628, c1629⟩ : ∃ v, I1615 a0 13 = v := ⟨_, rfl⟩
            rw [c1629] at p1620
            rw [c1612] at p1620
            obtain ⟨v1630, c1631⟩ : ∃ v, I1615 a0 14 = v := ⟨_, rfl⟩
            rw [c1631] at p1621
            rw [c1614] at p1621
            have eF := hF.eq
            have eP := hP.eq
            obtain ⟨v1632, c1633⟩ : ∃ v, I1615 a0 10 = v := ⟨_, rfl⟩
            have b1634 := iv15_10 hS1622.1 ta0 c1633
            obtain ⟨v1635, c1636⟩ : ∃ v, I1615 a0 11 = v := ⟨_, rfl⟩
            obtain ⟨y1637, c1638⟩ : ∃ v, L1617 a0 15 = v := ⟨_, rfl⟩
            obtain ⟨v1639, c1640⟩ : ∃ v, I1615 a0 12 = v := ⟨_, rfl⟩
            obtain ⟨v1641, c1642⟩ : ∃ v, I1615 a0 8 = v := ⟨_, rfl⟩
            have b1643 := iv15_8 hS1622.1 ta0 c1642
            exact ⟨rfl, rfl, rfl, rfl, rfl, hS1622, (fun dr hd => (Option.some.inj (d2.symm.trans hd)) ▸ hO1624), (Or.inr (⟨(by first | done | with_reducible assumption | exact om_7fac24c5 eF), (by (try rw [c1626]); first | done | with_reducible assumption | omega), (by (try rw [c1629]); first | done | with_reducible assumption | exact om_9adad658 p1316 p1620 eF), (by (try rw [c1631]); first | done | with_reducible assumption | exact om_3998a42e p1317 p1621 eP), trivial⟩)), trivial⟩
          · skip
            obtain ⟨v1644, c1645⟩ : ∃ v, I1289 a0 9 = v := ⟨_, rfl⟩
            have b1646 := iv15_9 hS1297.1 ta0 c1645
            rw [c1645] at p1321
            obtain ⟨v1647, c1648⟩ : ∃ v, I1289 a0 13 = v := ⟨_, rfl⟩
            rw [c1648] at p1322
            obtain ⟨v1649, c1650⟩ : ∃ v, I1289 a0 14 = v := ⟨_, rfl⟩
            rw [c1650] at p1323
            replace hF := hF.neg (by exact om_10ed11b5 p1319)
            replace hP := hP.neg (by exact om_10ed11b5 p1319)
            replace hF := hF.pos (by exact om_41eb13e5 p32 w1211 h1284 h1286 h1288 p1320)
            replace hP := hP.pos (by exact om_41eb13e5 p32 w1211 h1284 h1286 h1288 p1320)
            refine tr_istore_n dX12_readEvent_57 (by decide) (by decide) ?_
            refine sf_oE58 hE hZ hS1297.1 (gB) ta0 (by (try rw [c1645]); first | done | with_reducible assumption | omega) ⟨_, d2⟩ rfl rfl rfl rfl ?_
            rintro I1651 R1652 L1653 ⟨g1654, p1655, p1656, p1657, -⟩
            obtain rfl : R0 = R1652 := funext fun a => funext fun j => (g1654.2.2 a j (wm_no rfl)).symm
            have hS1658 := hS1297.tr g1654 (by decide +kernel) (by decide +kernel)
            have c1659 : I1651 a1 2 = v37 := (g1654.cell ta1 (by decide +kernel)).trans c1298
            have hO1660 : FrO 14 a1 T I0 I1651 := hO1299.st g1654 (by decide +kernel)
            obtain ⟨v1661, c1662⟩ : ∃ v, I1651 a0 9 = v := ⟨_, rfl⟩
            have b1663 := iv15_9 hS1658.1 ta0 c1662
            rw [c1662] at p1655
            obtain ⟨v1664, c1665⟩ : ∃ v, I1651 a0 13 = v := ⟨_, rfl⟩
            rw [c1665] at p1656
            rw [c1648] at p1656
            obtain ⟨v1666, c1667⟩ : ∃ v, I1651 a0 14 = v := ⟨_, rfl⟩
            rw [c1667] at p1657
            rw [c1650] at p1657
            have eF := hF.eq
            have eP := hP.eq
            obtain ⟨v1668, c1669⟩ : ∃ v, I1651 a0 10 = v := ⟨_, rfl⟩
            have b1670 := iv15_10 hS1658.1 ta0 c1669
            obtain ⟨v1671, c1672⟩ : ∃ v, I1651 a0 11 = v := ⟨_, rfl⟩
            obtain ⟨y1673, c1674⟩ : ∃ v, L1653 a0 15 = v := ⟨_, rfl⟩
            obtain ⟨v1675, c1676⟩ : ∃ v, I1651 a0 12 = v := ⟨_, rfl⟩
            obtain ⟨v1677, c1678⟩ : ∃ v, I1651 a0 8 = v := ⟨_, rfl⟩
            have b1679 := iv15_8 hS1658.1 ta0 c1678
            exact ⟨rfl, rfl, rfl, rfl, rfl, hS1658, (fun dr hd => (Option.some.inj (d2.symm.trans hd)) ▸ hO1660), (Or.inr (⟨(by first | done | with_reducible assumption | exact om_7b84bd42 eF), (by (try rw [c1662]); first | done | with_reducible assumption | omega), (by (try rw [c1665]); first | done | with_reducible assumption | exact om_4510ffdb p1322 p1656 eF), (by (try rw [c1667]); first | done | with_reducible assumption | exact om_3998a42e p1323 p1657 eP), trivial⟩)), trivial⟩
        · skip
          obtain ⟨v1680, c1681⟩ : ∃ v, I1229 a0 9 = v := ⟨_, rfl⟩
          have b1682 := iv15_9 hS1237.1 ta0 c1681
          rw [c1681] at p1255
          obtain ⟨v1683, c1684⟩ : ∃ v, I1229 a0 13 = v := ⟨_, rfl⟩
          rw [c1684] at p1256
          obtain ⟨v1685, c1686⟩ : ∃ v, I1229 a0 14 = v := ⟨_, rfl⟩
          rw [c1686] at p1257
          replace hF := hF.pos (by exact om_73cc8e29 p1254)
          replace hP := hP.pos (by exact om_73cc8e29 p1254)
          refine tr_goto 42 dX12_readEvent_37 (by decide) ?_
          refine tr_istore_n dX12_readEvent_42 (by decide) (by decide) ?_
          refine sf_oE43 hE hZ hS1237.1 (gB) ta0 (by (try rw [c1681]); first | done | with_reducible assumption | omega) ⟨_, d2⟩ rfl rfl rfl ?_
          rintro I1687 R1688 L1689 ⟨g1690, p1691, p1692, p1693, -⟩
          obtain rfl : R0 = R1688 := funext fun a => funext fun j => (g1690.2.2 a j (wm_no rfl)).symm
          have hS1694 := hS1237.tr g1690 (by decide +kernel) (by decide +kernel)
          have c1695 : I1687 a1 2 = v37 := (g1690.cell ta1 (by decide +kernel)).trans c1238
          have hO1696 : FrO 14 a1 T I0 I1687 := hO1239.st g1690 (by decide +kernel)
          obtain ⟨v1697, c1698⟩ : ∃ v, I1687 a0 9 = v := ⟨_, rfl⟩
          have b1699 := iv15_9 hS1694.1 ta0 c1698
          rw [c1698] at p1691
          obtain ⟨v1700, c1701⟩ : ∃ v, I1687 a0 13 = v := ⟨_, rfl⟩
          rw [c1701] at p1692
          rw [c1684] at p1692
          obtain ⟨v1702, c1703⟩ : ∃ v, I1687 a0 14 = v := ⟨_, rfl⟩
          rw [c1703] at p1693
          rw [c1686] at p1693
          have eF := hF.eq
          have eP := hP.eq
          obtain ⟨v1704, c1705⟩ : ∃ v, I1687 a0 10 = v := ⟨_, rfl⟩
          have b1706 := iv15_10 hS1694.1 ta0 c1705
          obtain ⟨v1707, c1708⟩ : ∃ v, I1687 a0 11 = v := ⟨_, rfl⟩
          obtain ⟨y1709, c1710⟩ : ∃ v, L1689 a0 15 = v := ⟨_, rfl⟩
          obtain ⟨v1711, c1712⟩ : ∃ v, I1687 a0 12 = v := ⟨_, rfl⟩
          obtain ⟨v1713, c1714⟩ : ∃ v, I1687 a0 8 = v := ⟨_, rfl⟩
          have b1715 := iv15_8 hS1694.1 ta0 c1714
          exact ⟨rfl, rfl, rfl, rfl, rfl, hS1694, (fun dr hd => (Option.some.inj (d2.symm.trans hd)) ▸ hO1696), (Or.inr (⟨(by first | done | with_reducible assumption | exact om_7fac24c5 eF), (by (try rw [c1698]); first | done | with_reducible assumption | omega), (by (try rw [c1701]); first | done | with_reducible assumption | exact om_9adad658 p1256 p1692 eF), (by (try rw [c1703]); first | done | with_reducible assumption | exact om_3998a42e p1257 p1693 eP), trivial⟩)), trivial⟩
        · skip
          obtain ⟨v1716, c1717⟩ : ∃ v, I1229 a0 9 = v := ⟨_, rfl⟩
          have b1718 := iv15_9 hS1237.1 ta0 c1717
          rw [c1717] at p1261
          obtain ⟨v1719, c1720⟩ : ∃ v, I1229 a0 13 = v := ⟨_, rfl⟩
          rw [c1720] at p1262
          obtain ⟨v1721, c1722⟩ : ∃ v, I1229 a0 14 = v := ⟨_, rfl⟩
          rw [c1722] at p1263
          replace hF := hF.neg (by exact om_10ed11b5 p1259)
          replace hP := hP.neg (by exact om_10ed11b5 p1259)
          replace hF := hF.pos (by exact om_41eb13e5 p36 w1212 h1224 h1226 h1228 p1260)
          replace hP := hP.pos (by exact om_41eb13e5 p36 w1212 h1224 h1226 h1228 p1260)
          refine tr_goto 42 dX12_readEvent_37 (by decide) ?_
          refine tr_istore_n dX12_readEvent_42 (by decide) (by decide) ?_
          refine sf_oE43 hE hZ hS1237.1 (gB) ta0 (by (try rw [c1717]); first | done | with_reducible assumption | omega) ⟨_, d2⟩ rfl rfl rfl ?_
          rintro I1723 R1724 L1725 ⟨g1726, p1727, p1728, p1729, -⟩
          obtain rfl : R0 = R1724 := funext fun a => funext fun j => (g1726.2.2 a j (wm_no rfl)).symm
          have hS1730 := hS1237.tr g1726 (by decide +kernel) (by decide +kernel)
          have c1731 : I1723 a1 2 = v37 := (g1726.cell ta1 (by decide +kernel)).trans c1238
          have hO1732 : FrO 14 a1 T I0 I1723 := hO1239.st g1726 (by decide +kernel)
          obtain ⟨v1733, c1734⟩ : ∃ v, I1723 a0 9 = v := ⟨_, rfl⟩
          have b1735 := iv15_9 hS1730.1 ta0 c1734
          rw [c1734] at p1727
          obtain ⟨v1736, c1737⟩ : ∃ v, I1723 a0 13 = v := ⟨_, rfl⟩
          rw [c1737] at p1728
          rw [c1720] at p1728
          obtain ⟨v1738, c1739⟩ : ∃ v, I1723 a0 14 = v := ⟨_, rfl⟩
          rw [c1739] at p1729
          rw [c1722] at p1729
          have eF := hF.eq
          have eP := hP.eq
          obtain ⟨v1740, c1741⟩ : ∃ v, I1723 a0 10 = v := ⟨_, rfl⟩
          have b1742 := iv15_10 hS1730.1 ta0 c1741
          obtain ⟨v1743, c1744⟩ : ∃ v, I1723 a0 11 = v := ⟨_, rfl⟩
          obtain ⟨y1745, c1746⟩ : ∃ v, L1725 a0 15 = v := ⟨_, rfl⟩
          obtain ⟨v1747, c1748⟩ : ∃ v, I1723 a0 12 = v := ⟨_, rfl⟩
          obtain ⟨v1749, c1750⟩ : ∃ v, I1723 a0 8 = v := ⟨_, rfl⟩
          have b1751 := iv15_8 hS1730.1 ta0 c1750
          exact ⟨rfl, rfl, rfl, rfl, rfl, hS1730, (fun dr hd => (Option.some.inj (d2.symm.trans hd)) ▸ hO1732), (Or.inr (⟨(by first | done | with_reducible assumption | exact om_7b84bd42 eF), (by (try rw [c1734]); first | done | with_reducible assumption | omega), (by (try rw [c1737]); first | done | with_reducible assumption | exact om_4510ffdb p1262 p1728 eF), (by (try rw [c1739]); first | done | with_reducible assumption | exact om_3998a42e p1263 p1729 eP), trivial⟩)), trivial⟩
      · skip
        exfalso; exact om_9a194045 pre18 kd66 h1221 h1222
    · skip
      obtain ⟨v1752, c1753⟩ : ∃ v, I1157 a0 9 = v := ⟨_, rfl⟩
      have b1754 := iv15_9 hS1165.1 ta0 c1753
      rw [c1753] at p1180
      obtain ⟨v1755, c1756⟩ : ∃ v, I1157 a0 13 = v := ⟨_, rfl⟩
      rw [c1756] at p1181
      obtain ⟨v1757, c1758⟩ : ∃ v, I1157 a0 14 = v := ⟨_, rfl⟩
      rw [c1758] at p1182
      have p1759 := p61
      unfold Q7M at p1759
      replace hF := hF.pos (by exact om_de452e62 pre18 p40 kd66 h1156 p1179)
      replace hP := hP.pos (by exact om_de452e62 pre18 p40 kd66 h1156 p1179)
      clear p1759
      refine sf_oE13 hE hZ hS1165.1 (gB) ta0 (by (try rw [c1753]); first | done | with_reducible assumption | omega) ⟨_, d2⟩ rfl rfl ?_
      rintro I1760 R1761 L1762 ⟨g1763, p1764, p1765, p1766, -⟩
      obtain rfl : R0 = R1761 := funext fun a => funext fun j => (g1763.2.2 a j (wm_no rfl)).symm
      have hS1767 := hS1165.tr g1763 (by decide +kernel) (by decide +kernel)
      have c1768 : I1760 a1 2 = v37 := (g1763.cell ta1 (by decide +kernel)).trans c1166
      have hO1769 : FrO 14 a1 T I0 I1760 := hO1167.st g1763 (by decide +kernel)
      obtain ⟨v1770, c1771⟩ : ∃ v, I1760 a0 9 = v := ⟨_, rfl⟩
      have b1772 := iv15_9 hS1767.1 ta0 c1771
      rw [c1771] at p1764
      obtain ⟨v1773, c1774⟩ : ∃ v, I1760 a0 13 = v := ⟨_, rfl⟩
      rw [c1774] at p1765
      rw [c1756] at p1765
      obtain ⟨v1775, c1776⟩ : ∃ v, I1760 a0 14 = v := ⟨_, rfl⟩
      rw [c1776] at p1766
      rw [c1758] at p1766
      have eF := hF.eq
      have eP := hP.eq
      obtain ⟨v1777, c1778⟩ : ∃ v, I1760 a0 10 = v := ⟨_, rfl⟩
      have b1779 := iv15_10 hS1767.1 ta0 c1778
      obtain ⟨v1780, c1781⟩ : ∃ v, I1760 a0 11 = v := ⟨_, rfl⟩
      obtain ⟨y1782, c1783⟩ : ∃ v, L1762 a0 15 = v := ⟨_, rfl⟩
      obtain ⟨v1784, c1785⟩ : ∃ v, I1760 a0 12 = v := ⟨_, rfl⟩
      obtain ⟨v1786, c1787⟩ : ∃ v, I1760 a0 8 = v := ⟨_, rfl⟩
      have b1788 := iv15_8 hS1767.1 ta0 c1787
      exact ⟨rfl, rfl, rfl, rfl, rfl, hS1767, (fun dr hd => (Option.some.inj (d2.symm.trans hd)) ▸ hO1769), (Or.inr (⟨(by first | done | with_reducible assumption | exact om_64c62efe eF), (by (try rw [c1771]); first | done | with_reducible assumption | omega), (by (try rw [c1774]); first | done | with_reducible assumption | exact om_7fd518bd p1181 p1765 eF), (by (try rw [c1776]); first | done | with_reducible assumption | exact om_8e6888af p11 p1182 p1766 eP), trivial⟩)), trivial⟩
    · skip
      obtain ⟨v1789, c1790⟩ : ∃ v, I1157 a0 9 = v := ⟨_, rfl⟩
      have b1791 := iv15_9 hS1165.1 ta0 c1790
      rw [c1790] at p1185
      obtain ⟨v1792, c1793⟩ : ∃ v, I1157 a0 13 = v := ⟨_, rfl⟩
      rw [c1793] at p1186
      obtain ⟨v1794, c1795⟩ : ∃ v, I1157 a0 14 = v := ⟨_, rfl⟩
      rw [c1795] at p1187
      have p1796 := p61
      unfold Q7M at p1796
      replace hF := hF.neg (by exact om_6c82f3de pre18 b39.2 b39.1 p40 kd66 h1156 p1183 p1184 p1796)
      replace hP := hP.neg (by exact om_6c82f3de pre18 b39.2 b39.1 p40 kd66 h1156 p1183 p1184 p1796)
      replace hF := hF.pos (by exact om_89c4113d pre18 kd66 p1184 p1796)
      replace hP := hP.pos (by exact om_89c4113d pre18 kd66 p1184 p1796)
      clear p1796
      refine sf_oE13 hE hZ hS1165.1 (gB) ta0 (by (try rw [c1790]); first | done | with_reducible assumption | omega) ⟨_, d2⟩ rfl rfl ?_
      rintro I1797 R1798 L1799 ⟨g1800, p1801, p1802, p1803, -⟩
      obtain rfl : R0 = R1798 := funext fun a => funext fun j => (g1800.2.2 a j (wm_no rfl)).symm
      have hS1804 := hS1165.tr g1800 (by decide +kernel) (by decide +kernel)
      have c1805 : I1797 a1 2 = v37 := (g1800.cell ta1 (by decide +kernel)).trans c1166
      have hO1806 : FrO 14 a1 T I0 I1797 := hO1167.st g1800 (by decide +kernel)
      obtain ⟨v1807, c1808⟩ : ∃ v, I1797 a0 9 = v := ⟨_, rfl⟩
      have b1809 := iv15_9 hS1804.1 ta0 c1808
      rw [c1808] at p1801
      obtain ⟨v1810, c1811⟩ : ∃ v, I1797 a0 13 = v := ⟨_, rfl⟩
      rw [c1811] at p1802
      rw [c1793] at p1802
      obtain ⟨v1812, c1813⟩ : ∃ v, I1797 a0 14 = v := ⟨_, rfl⟩
      rw [c1813] at p1803
      rw [c1795] at p1803
      have eF := hF.eq
      have eP := hP.eq
      obtain ⟨v1814, c1815⟩ : ∃ v, I1797 a0 10 = v := ⟨_, rfl⟩
      have b1816 := iv15_10 hS1804.1 ta0 c1815
      obtain ⟨v1817, c1818⟩ : ∃ v, I1797 a0 11 = v := ⟨_, rfl⟩
      obtain ⟨y1819, c1820⟩ : ∃ v, L1799 a0 15 = v := ⟨_, rfl⟩
      obtain ⟨v1821, c1822⟩ : ∃ v, I1797 a0 12 = v := ⟨_, rfl⟩
      obtain ⟨v1823, c1824⟩ : ∃ v, I1797 a0 8 = v := ⟨_, rfl⟩
      have b1825 := iv15_8 hS1804.1 ta0 c1824
      exact ⟨rfl, rfl, rfl, rfl, rfl, hS1804, (fun dr hd => (Option.some.inj (d2.symm.trans hd)) ▸ hO1806), (Or.inr (⟨(by first | done | with_reducible assumption | exact om_3a8e1f7c eF), (by (try rw [c1808]); first | done | with_reducible assumption | omega), (by (try rw [c1811]); first | done | with_reducible assumption | exact om_1428d4dd p1186 p1802 eF), (by (try rw [c1813]); first | done | with_reducible assumption | exact om_8e6888af p11 p1187 p1803 eP), trivial⟩)), trivial⟩
  · skip
    refine tr_aload_n dX12_readEvent_0 rfl ?_
    refine tr_aload_n dX12_readEvent_1 rfl ?_
    refine tr_getR dX12_readEvent_2 fl12_188 (kR15 hS0.1 ta0) d2 ?_
    refine q_getI dX12_readEvent_5 fl12_265 (kR14 hS0.1 ta1) c38 ?_
    refine q_bipush dX12_readEvent_8 (by decide +kernel) ?_
    intro v1826 h1827
    refine q_callVv hE (M' := mX12_begins) (as := [_, _]) dX12_readEvent_10 lk12_268 inX12_begins seX12_begins myX12_begins (by decide) ⟨by decide, by decide⟩ rfl (kR15 hS0.1 ta0) (Nat.le_of_ble_eq_true rfl) rfl rfl (by decide) (by decide) (fk_X12_begins hS0.1 (gB) (gs) (gQ) ta0 (TxA.kp hT hS0 ta0 rfl rfl rfl (by decide +kernel) (by decide +kernel)) (by (try rw [c4]); first | done | with_reducible assumption | omega) (by (try rw [c4]); first | done | with_reducible assumption | omega) (by (try rw [c9]); first | done | with_reducible assumption | omega) (by (try rw [c13]); first | done | with_reducible assumption | omega) (by (try rw [c16]); first | done | assumption) (by (try rw [c19]); first | done | assumption) (by (try rw [c22]); first | done | assumption) (by (try rw [c26]); first | done | with_reducible assumption | omega) (fun q0 z0 => by obtain rfl := Option.some.inj ((d2).symm.trans z0); (try rw [c30]); first | done | with_reducible assumption | omega) (by first | done | with_reducible assumption | omega) ⟨_, d2⟩) ?_
    rintro cn' K' N' I1828 R1829 L1830 ⟨rfl, rfl, rfl, rfl, g1831, dj1834, -⟩
    have hM1835 : NmM I1828 R0 L0 a1 gQ := NmM.kpS hM0 g1831 hS0.1 ta1 (by decide +kernel) (by decide +kernel)
    have hS1836 := hS0.tr g1831 (by decide +kernel) (by decide +kernel)
    have c1837 : I1828 a1 2 = v37 := (g1831.cell ta1 (by decide +kernel)).trans c38
    have hO1838 : FrO 14 a1 T I0 I1828 := hO0.st g1831 (by decide +kernel)
    rcases dj1834 with ⟨p1839, p1840, p1841, p1842, p1843, p1844, p1845, p1846, p1847, p1848, gl1849, -⟩ | ⟨p1850, p1851, p1852, p1853, -⟩ | ⟨p1854, p1855, p1856, p1857, p1858, -⟩
    · skip
      have hL1859 := hL0.tr gl1849 (by decide +kernel)
      have hM1860 : NmM I1828 R0 L1830 a1 gQ := NmM.kpL hM1835 gl1849 hS1836.1 ta1 (by decide +kernel)
      obtain ⟨v1861, c1862⟩ : ∃ v, I1828 a0 13 = v := ⟨_, rfl⟩
      rw [c1862] at p1841
      rw [c65] at p1841
      obtain ⟨v1863, c1864⟩ : ∃ v, I1828 a0 9 = v := ⟨_, rfl⟩
      have b1865 := iv15_9 hS1836.1 ta0 c1864
      rw [c1864] at p1842
      rw [c1864] at p1843
      obtain ⟨v1866, c1867⟩ : ∃ v, I1828 a0 10 = v := ⟨_, rfl⟩
      have b1868 := iv15_10 hS1836.1 ta0 c1867
      rw [c1867] at p1844
      obtain ⟨v1869, c1870⟩ : ∃ v, I1828 a0 11 = v := ⟨_, rfl⟩
      rw [c1870] at p1845
      obtain ⟨y1871, c1872⟩ : ∃ v, L1830 a0 15 = v := ⟨_, rfl⟩
      rw [c1872] at p1846
      obtain ⟨v1873, c1874⟩ : ∃ v, I1828 a0 12 = v := ⟨_, rfl⟩
      rw [c1874] at p1847
      obtain ⟨v1875, c1876⟩ : ∃ v, I1828 a0 8 = v := ⟨_, rfl⟩
      have b1877 := iv15_8 hS1836.1 ta0 c1876
      rw [c1876] at p1848
      have p1878 := p61
      unfold Q7M at p1878
      replace hF := hF.neg (by exact om_d8ef519f pre18 b31.2 b31.1 p32 b39.2 b39.1 p40 kd66 h1827 p1839 p1840 p1878)
      replace hP := hP.neg (by exact om_d8ef519f pre18 b31.2 b31.1 p32 b39.2 b39.1 p40 kd66 h1827 p1839 p1840 p1878)
      replace hF := hF.neg (by exact om_744959b9 pre18 kd66 p1840 p1878)
      replace hP := hP.neg (by exact om_744959b9 pre18 kd66 p1840 p1878)
      clear p1878
      obtain ⟨w1879, w1880, w1881, w1882, w1883, w1884, w1885, w1886, w1887, w1888, w1889, w1890⟩ := lnl_e (B := gB) (Q := gQ) (s := gs) (by exact om_0b3f8417 pre18 kd66) (by exact om_42c31655 pre18 kd66)
      replace hF := hF.to w1879 (evF_c2 (B := gB) (Q := gQ) (k := srt gB gs) (s := (tkN gB gs)) (by exact om_19aee7d3 pre18 kd66))
      replace hP := hP.to w1880 (evP_c2 (B := gB) (Q := gQ) (k := srt gB gs) (s := (tkN gB gs)) (by exact om_19aee7d3 pre18 kd66))
      refine tr_iload_n dX12_readEvent_13 rfl ?_
      refine q_iconst dX12_readEvent_14 (by decide) ?_
      intro v1891 h1892
      refine q_icmp_eq 23 dX12_readEvent_15 (by decide) (fun h1893 => ?_) (fun h1893 => ?_)
      · skip
        exfalso; exact om_0361514e pre18 kd66 h1892 h1893
      · skip
        refine tr_iload_n dX12_readEvent_18 rfl ?_
        refine q_iconst dX12_readEvent_19 (by decide) ?_
        intro v1894 h1895
        refine q_icmp_ne 40 dX12_readEvent_20 (by decide) (fun h1896 => ?_) (fun h1896 => ?_)
        · skip
          exfalso; exact om_5726ba40 pre18 kd66 h1895 h1896
        · skip
          refine tr_aload_n dX12_readEvent_23 rfl ?_
          refine q_iconst dX12_readEvent_24 (by decide) ?_
          intro v1897 h1898
          refine tr_aload_n dX12_readEvent_25 rfl ?_
          refine tr_getR dX12_readEvent_26 fl12_188 (kR15 hS1836.1 ta0) d2 ?_
          refine q_getI dX12_readEvent_29 fl12_263 (kR14 hS1836.1 ta1) ((hS1836.cell ta1 (by decide +kernel)).trans c34) ?_
          refine q_iconst dX12_readEvent_32 (by decide) ?_
          intro v1899 h1900
          refine q_isubE dX12_readEvent_33 (by intro j1 j2 j3 j4; exact om_99c1ed93 b35.2 b35.1 p36 w1883 h1900) ?_
          intro v1901 h1902
          refine q_callVi hE (M' := mX12_readWhole) (as := [_, _]) dX12_readEvent_34 lk12_161 inX12_readWhole seX12_readWhole myX12_readWhole (by decide) ⟨by decide, by decide⟩ rfl (kR15 hS1836.1 ta0) (Nat.le_of_ble_eq_true rfl) rfl rfl (by decide) (by decide) (fk_X12_readWhole hS1836.1 (gB) ((tkN gB gs)) ta0 (TxA.kp hT hS1836 ta0 rfl rfl rfl (by decide +kernel) (by decide +kernel)) (by (try rw [c1864]); first | done | with_reducible assumption | omega) (by (try rw [c1864]); first | done | with_reducible assumption | omega) (by (try rw [c1867]); first | done | with_reducible assumption | omega) (by (try rw [c1870]); first | done | with_reducible assumption | omega) (by (try rw [c1872]); first | done | assumption) (by (try rw [c1874]); first | done | assumption) (by (try rw [c1876]); first | done | assumption) (by (try rw [((hS1836.cell ta0 (by decide +kernel)).trans c26)]); first | done | with_reducible assumption | omega)) ?_
          rintro v1908 cn' K' N' I1903 R1904 L1905 ⟨rfl, rfl, rfl, rfl, g1906, dj1909, -⟩
          have hM1910 : NmM I1903 R0 L1830 a1 gQ := NmM.kpS hM1860 g1906 hS1836.1 ta1 (by decide +kernel) (by decide +kernel)
          have hS1911 := hS1836.tr g1906 (by decide +kernel) (by decide +kernel)
          have c1912 : I1903 a1 2 = v37 := (g1906.cell ta1 (by decide +kernel)).trans c1837
          have hO1913 : FrO 14 a1 T I0 I1903 := hO1838.st g1906 (by decide +kernel)
          rcases dj1909 with ⟨p1914, p1915, p1916, p1917, p1918, p1919, p1920, p1921, p1922, p1923, p1924, p1925, gl1926, -⟩ | ⟨p1927, p1928, p1929, p1930, p1931, -⟩ | ⟨p1932, p1933, p1934, p1935, p1936, p1937, -⟩
          · skip
            have hL1938 := hL1859.tr gl1926 (by decide +kernel)
            have hM1939 : NmM I1903 R0 L1905 a1 gQ := NmM.kpL hM1910 gl1926 hS1911.1 ta1 (by decide +kernel)
            obtain ⟨v1940, c1941⟩ : ∃ v, I1903 a0 13 = v := ⟨_, rfl⟩
            rw [c1941] at p1918
            rw [c1862] at p1918
            obtain ⟨v1942, c1943⟩ : ∃ v, I1903 a0 9 = v := ⟨_, rfl⟩
            have b1944 := iv15_9 hS1911.1 ta0 c1943
            rw [c1943] at p1919
            rw [c1943] at p1920
            obtain ⟨v1945, c1946⟩ : ∃ v, I1903 a0 10 = v := ⟨_, rfl⟩
            have b1947 := iv15_10 hS1911.1 ta0 c1946
            rw [c1946] at p1921
            obtain ⟨v1948, c1949⟩ : ∃ v, I1903 a0 11 = v := ⟨_, rfl⟩
            rw [c1949] at p1922
            obtain ⟨y1950, c1951⟩ : ∃ v, L1905 a0 15 = v := ⟨_, rfl⟩
            rw [c1951] at p1923
            obtain ⟨v1952, c1953⟩ : ∃ v, I1903 a0 12 = v := ⟨_, rfl⟩
            rw [c1953] at p1924
            obtain ⟨v1954, c1955⟩ : ∃ v, I1903 a0 8 = v := ⟨_, rfl⟩
            have b1956 := iv15_8 hS1911.1 ta0 c1955
            rw [c1955] at p1925
            replace hF := hF.neg (by exact om_10ed11b5 p1915)
            replace hP := hP.neg (by exact om_10ed11b5 p1915)
            replace hF := hF.neg (by exact om_4062d996 p36 w1883 h1898 h1900 h1902 p1916 p1917)
            replace hP := hP.neg (by exact om_4062d996 p36 w1883 h1898 h1900 h1902 p1916 p1917)
            refine tr_goto 42 dX12_readEvent_37 (by decide) ?_
            refine tr_istore_n dX12_readEvent_42 (by decide) (by decide) ?_
            refine tr_aload_n dX12_readEvent_43 rfl ?_
            refine q_iconst dX12_readEvent_44 (by decide) ?_
            intro v1957 h1958
            refine tr_aload_n dX12_readEvent_45 rfl ?_
            refine tr_getR dX12_readEvent_46 fl12_188 (kR15 hS1911.1 ta0) d2 ?_
            refine q_getI dX12_readEvent_49 fl12_192 (kR14 hS1911.1 ta1) ((hS1911.cell ta1 (by decide +kernel)).trans c30) ?_
            refine q_iconst dX12_readEvent_52 (by decide) ?_
            intro v1959 h1960
            refine q_isubE dX12_readEvent_53 (by intro j1 j2 j3 j4; exact om_6479810f b31.2 b31.1 p32 w1882 h1960) ?_
            intro v1961 h1962
            refine q_callVi hE (M' := mX12_readWhole) (as := [_, _]) dX12_readEvent_54 lk12_161 inX12_readWhole seX12_readWhole myX12_readWhole (by decide) ⟨by decide, by decide⟩ rfl (kR15 hS1911.1 ta0) (Nat.le_of_ble_eq_true rfl) rfl rfl (by decide) (by decide) (fk_X12_readWhole hS1911.1 (gB) ((tkN gB (tkN gB gs))) ta0 (TxA.kp hT hS1911 ta0 rfl rfl rfl (by decide +kernel) (by decide +kernel)) (by (try rw [c1943]); first | done | with_reducible assumption | omega) (by (try rw [c1943]); first | done | with_reducible assumption | omega) (by (try rw [c1946]); first | done | with_reducible assumption | omega) (by (try rw [c1949]); first | done | with_reducible assumption | omega) (by (try rw [c1951]); first | done | assumption) (by (try rw [c1953]); first | done | assumption) (by (try rw [c1955]); first | done | assumption) (by (try rw [((hS1911.cell ta0 (by decide +kernel)).trans c26)]); first | done | with_reducible assumption | omega)) ?_
            rintro v1968 cn' K' N' I1963 R1964 L1965 ⟨rfl, rfl, rfl, rfl, g1966, dj1969, -⟩
            have hM1970 : NmM I1963 R0 L1905 a1 gQ := NmM.kpS hM1939 g1966 hS1911.1 ta1 (by decide +kernel) (by decide +kernel)
            have hS1971 := hS1911.tr g1966 (by decide +kernel) (by decide +kernel)
            have c1972 : I1963 a1 2 = v37 := (g1966.cell ta1 (by decide +kernel)).trans c1912
            have hO1973 : FrO 14 a1 T I0 I1963 := hO1913.st g1966 (by decide +kernel)
            rcases dj1969 with ⟨p1974, p1975, p1976, p1977, p1978, p1979, p1980, p1981, p1982, p1983, p1984, p1985, gl1986, -⟩ | ⟨p1987, p1988, p1989, p1990, p1991, -⟩ | ⟨p1992, p1993, p1994, p1995, p1996, p1997, -⟩
            · skip
              have hL1998 := hL1938.tr gl1986 (by decide +kernel)
              have hM1999 : NmM I1963 R0 L1965 a1 gQ := NmM.kpL hM1970 gl1986 hS1971.1 ta1 (by decide +kernel)
              obtain ⟨v2000, c2001⟩ : ∃ v, I1963 a0 13 = v := ⟨_, rfl⟩
              rw [c2001] at p1978
              rw [c1941] at p1978
              obtain ⟨v2002, c2003⟩ : ∃ v, I1963 a0 9 = v := ⟨_, rfl⟩
              have b2004 := iv15_9 hS1971.1 ta0 c2003
              rw [c2003] at p1979
              rw [c2003] at p1980
              obtain ⟨v2005, c2006⟩ : ∃ v, I1963 a0 10 = v := ⟨_, rfl⟩
              have b2007 := iv15_10 hS1971.1 ta0 c2006
              rw [c2006] at p1981
              obtain ⟨v2008, c2009⟩ : ∃ v, I1963 a0 11 = v := ⟨_, rfl⟩
              rw [c2009] at p1982
              obtain ⟨y2010, c2011⟩ : ∃ v, L1965 a0 15 = v := ⟨_, rfl⟩
              rw [c2011] at p1983
              obtain ⟨v2012, c2013⟩ : ∃ v, I1963 a0 12 = v := ⟨_, rfl⟩
              rw [c2013] at p1984
              obtain ⟨v2014, c2015⟩ : ∃ v, I1963 a0 8 = v := ⟨_, rfl⟩
              have b2016 := iv15_8 hS1971.1 ta0 c2015
              rw [c2015] at p1985
              replace hF := hF.neg (by exact om_10ed11b5 p1975)
              replace hP := hP.neg (by exact om_10ed11b5 p1975)
              replace hF := hF.neg (by exact om_4062d996 p32 w1882 h1958 h1960 h1962 p1976 p1977)
              replace hP := hP.neg (by exact om_4062d996 p32 w1882 h1958 h1960 h1962 p1976 p1977)
              refine tr_istore_n dX12_readEvent_57 (by decide) (by decide) ?_
              refine tr_iload_n dX12_readEvent_58 rfl ?_
              refine q_iconst dX12_readEvent_59 (by decide) ?_
              intro v2017 h2018
              refine q_icmp_ne 69 dX12_readEvent_60 (by decide) (fun h2019 => ?_) (fun h2019 => ?_)
              · skip
                refine tr_aload_n dX12_readEvent_69 rfl ?_
                refine tr_ldcwS dX12_readEvent_70 ld12_272 ?_
                refine tr_iload_n dX12_readEvent_73 rfl ?_
                refine q_iconst dX12_readEvent_74 (by decide) ?_
                intro v2020 h2021
                refine q_iaddE dX12_readEvent_75 (by intro j1 j2 j3 j4; exact om_5e7b6990 b31.2 b31.1 p32 w1882 h1958 h1960 h1962 p1974 p1976 p1977 h2021 j2) ?_
                intro v2022 h2023
                refine tr_aload_n dX12_readEvent_76 rfl ?_
                refine tr_getR dX12_readEvent_77 fl12_188 (kR15 hS1971.1 ta0) d2 ?_
                refine q_getI dX12_readEvent_80 fl12_192 (kR14 hS1971.1 ta1) ((hS1971.cell ta1 (by decide +kernel)).trans c30) ?_
                refine q_callVi hE (M' := mX12_readPart) (as := [_, _, _]) dX12_readEvent_83 lk12_249 inX12_readPart seX12_readPart myX12_readPart (by decide) ⟨by decide, by decide⟩ rfl (kR15 hS1971.1 ta0) (Nat.le_of_ble_eq_true rfl) rfl rfl (by decide) (by decide) (fk_X12_readPart hS1971.1 (gB) ((tkN gB (tkN gB (tkN gB gs)))) ta0 (by decide) (TxA.kp hT hS1971 ta0 rfl rfl rfl (by decide +kernel) (by decide +kernel)) (by (try rw [c2003]); first | done | with_reducible assumption | omega) (by (try rw [c2003]); first | done | with_reducible assumption | omega) (by (try rw [c2006]); first | done | with_reducible assumption | omega) (by (try rw [c2009]); first | done | with_reducible assumption | omega) (by (try rw [c2011]); first | done | assumption) (by (try rw [c2013]); first | done | assumption) (by (try rw [c2015]); first | done | assumption) (by (try rw [((hS1971.cell ta0 (by decide +kernel)).trans c26)]); first | done | with_reducible assumption | omega)) ?_
                rintro v2029 cn' K' N' I2024 R2025 L2026 ⟨rfl, rfl, rfl, rfl, g2027, dj2030, -⟩
                (try rw [pk_25] at dj2030)
                have hM2031 : NmM I2024 R0 L1965 a1 gQ := NmM.kpS hM1999 g2027 hS1971.1 ta1 (by decide +kernel) (by decide +kernel)
                have hS2032 := hS1971.tr g2027 (by decide +kernel) (by decide +kernel)
                have c2033 : I2024 a1 2 = v37 := (g2027.cell ta1 (by decide +kernel)).trans c1972
                have hO2034 : FrO 14 a1 T I0 I2024 := hO1973.st g2027 (by decide +kernel)
                rcases dj2030 with ⟨p2035, p2036, p2037, p2038, p2039, p2040, p2041, p2042, p2043, p2044, p2045, p2046, p2047, p2048, gl2049, -⟩ | ⟨p2050, p2051, p2052, p2053, p2054, -⟩ | ⟨p2055, p2056, p2057, p2058, p2059, p2060, p2061, -⟩ | ⟨p2062, p2063, p2064, p2065, p2066, p2067, p2068, p2069, -⟩
                · skip
                  have hL2070 := hL1998.tr gl2049 (by decide +kernel)
                  have hM2071 : NmM I2024 R0 L2026 a1 gQ := NmM.kpL hM2031 gl2049 hS2032.1 ta1 (by decide +kernel)
                  obtain ⟨v2072, c2073⟩ : ∃ v, I2024 a0 13 = v := ⟨_, rfl⟩
                  rw [c2073] at p2041
                  rw [c2001] at p2041
                  obtain ⟨v2074, c2075⟩ : ∃ v, I2024 a0 9 = v := ⟨_, rfl⟩
                  have b2076 := iv15_9 hS2032.1 ta0 c2075
                  rw [c2075] at p2042
                  rw [c2075] at p2043
                  obtain ⟨v2077, c2078⟩ : ∃ v, I2024 a0 10 = v := ⟨_, rfl⟩
                  have b2079 := iv15_10 hS2032.1 ta0 c2078
                  rw [c2078] at p2044
                  obtain ⟨v2080, c2081⟩ : ∃ v, I2024 a0 11 = v := ⟨_, rfl⟩
                  rw [c2081] at p2045
                  obtain ⟨y2082, c2083⟩ : ∃ v, L2026 a0 15 = v := ⟨_, rfl⟩
                  rw [c2083] at p2046
                  obtain ⟨v2084, c2085⟩ : ∃ v, I2024 a0 12 = v := ⟨_, rfl⟩
                  rw [c2085] at p2047
                  obtain ⟨v2086, c2087⟩ : ∃ v, I2024 a0 8 = v := ⟨_, rfl⟩
                  have b2088 := iv15_8 hS2032.1 ta0 c2087
                  rw [c2087] at p2048
                  replace hF := hF.neg (by exact om_04941ac6 p2036 p2037)
                  replace hP := hP.neg (by exact om_04941ac6 p2036 p2037)
                  replace hF := hF.neg (by exact om_10ed11b5 p2038)
                  replace hP := hP.neg (by exact om_10ed11b5 p2038)
                  replace hF := hF.neg (by exact om_11a1fbca p32 w1882 h1960 h1962 p1974 h2021 h2023 p2039 p2040)
                  replace hP := hP.neg (by exact om_11a1fbca p32 w1882 h1960 h1962 p1974 h2021 h2023 p2039 p2040)
                  refine tr_istore dX12_readEvent_86 (by decide) (by decide) ?_
                  refine tr_aload_n dX12_readEvent_88 rfl ?_
                  refine q_getI dX12_readEvent_89 fl12_99 (kR15 hS2032.1 ta0) c2075 ?_
                  refine q_iconst dX12_readEvent_92 (by decide) ?_
                  intro v2089 h2090
                  refine q_icmp_ne 97 dX12_readEvent_93 (by decide) (fun h2091 => ?_) (fun h2091 => ?_)
                  · skip
                    refine tr_aload_n dX12_readEvent_97 rfl ?_
                    refine tr_getR dX12_readEvent_98 fl12_188 (kR15 hS2032.1 ta0) d2 ?_
                    refine q_getI dX12_readEvent_101 fl12_265 (kR14 hS2032.1 ta1) c2033 ?_
                    refine tr_istore dX12_readEvent_104 (by decide) (by decide) ?_
                    refine tr_aload_n dX12_readEvent_106 rfl ?_
                    refine tr_getR dX12_readEvent_107 fl12_188 (kR15 hS2032.1 ta0) d2 ?_
                    obtain ⟨a2092, d2093, ta2092⟩ := rf14_11 hW0 ta1
                    refine tr_getR dX12_readEvent_110 fl12_274 (kR14 hS2032.1 ta1) d2093 ?_
                    refine tr_iload dX12_readEvent_113 rfl ?_
                    refine tr_iload_n dX12_readEvent_115 rfl ?_
                    refine q_iastX dX12_readEvent_116 (kR54 hS2032.1 ta2092) (ti_in (nR54 hS2032.1 ta2092) (by exact om_b14f9e1e b39.2 b39.1 p40 w1884) (by exact om_00437d75 pre18 b31.2 b31.1 p32 b39.2 b39.1 p40 kd66 h1827 p1839 p1840 w1882 w1884 h1892 h1893 h1960 h1962 h2018 h2019 p2043 p2042 b2076.1 h2090 h2091)) hS2032 ta2092 (by rfl) (hS2032.1.putK (m := a1) ta1 d2093 (by rw [c2033]; exact Int.le_of_eq (ti_nat (by exact om_b14f9e1e b39.2 b39.1 p40 w1884)).symm)) ?_
                    intro I2098 hS2099 e2100 f2101
                    have c2102 : I2098 a1 2 = v37 := (f2101 _ _ (fun q => by have z := ta1; rw [q.1, ta2092] at z; exact absurd z (by decide))).trans c2033
                    have c2103 : I2098 a0 13 = v2072 := (f2101 _ _ (fun q => by have z := ta0; rw [q.1, ta2092] at z; exact absurd z (by decide))).trans c2073
                    have c2104 : I2098 a0 9 = v2074 := (f2101 _ _ (fun q => by have z := ta0; rw [q.1, ta2092] at z; exact absurd z (by decide))).trans c2075
                    have c2105 : I2098 a0 10 = v2077 := (f2101 _ _ (fun q => by have z := ta0; rw [q.1, ta2092] at z; exact absurd z (by decide))).trans c2078
                    have c2106 : I2098 a0 11 = v2080 := (f2101 _ _ (fun q => by have z := ta0; rw [q.1, ta2092] at z; exact absurd z (by decide))).trans c2081
                    have c2107 : I2098 a0 12 = v2084 := (f2101 _ _ (fun q => by have z := ta0; rw [q.1, ta2092] at z; exact absurd z (by decide))).trans c2085
                    have c2108 : I2098 a0 8 = v2086 := (f2101 _ _ (fun q => by have z := ta0; rw [q.1, ta2092] at z; exact absurd z (by decide))).trans c2087
                    have hO2109 : FrO 14 a1 T I0 I2098 := hO2034.put f2101 ta2092 (Or.inl (by decide))
                    have hM2110 : NmM I2098 R0 L2026 a1 gQ := NmM.kp1 hM2071 f2101 ta2092 rfl rfl hS2032.1 ta1
                    refine tr_aload_n dX12_readEvent_117 rfl ?_
                    refine tr_getR dX12_readEvent_118 fl12_188 (kR15 hS2099.1 ta0) d2 ?_
                    obtain ⟨a2111, d2112, ta2111⟩ := rf14_12 hW0 ta1
                    refine tr_getR dX12_readEvent_121 fl12_277 (kR14 hS2099.1 ta1) d2112 ?_
                    refine tr_iload dX12_readEvent_124 rfl ?_
                    refine tr_iload_n dX12_readEvent_126 rfl ?_
                    refine q_iastX dX12_readEvent_127 (kR55 hS2099.1 ta2111) (ti_in (nR55 hS2099.1 ta2111) (by exact om_b14f9e1e b39.2 b39.1 p40 w1884) (by exact om_00437d75 pre18 b31.2 b31.1 p32 b39.2 b39.1 p40 kd66 h1827 p1839 p1840 w1882 w1884 h1892 h1893 h1960 h1962 h2018 h2019 p2043 p2042 b2076.1 h2090 h2091)) hS2099 ta2111 (by rfl) (hS2099.1.putH (m := a1) ta1 d2112 (by rw [c2102]; exact Int.le_of_eq (ti_nat (by exact om_b14f9e1e b39.2 b39.1 p40 w1884)).symm) (by exact om_3e0e6c99 b35.2 b35.1 p36 w1883 h1898 h1900 h1902 p1914 p1916 p1917)) ?_
                    intro I2117 hS2118 e2119 f2120
                    have c2121 : I2117 a1 2 = v37 := (f2120 _ _ (fun q => by have z := ta1; rw [q.1, ta2111] at z; exact absurd z (by decide))).trans c2102
                    have c2122 : I2117 a0 13 = v2072 := (f2120 _ _ (fun q => by have z := ta0; rw [q.1, ta2111] at z; exact absurd z (by decide))).trans c2103
                    have c2123 : I2117 a0 9 = v2074 := (f2120 _ _ (fun q => by have z := ta0; rw [q.1, ta2111] at z; exact absurd z (by decide))).trans c2104
                    have c2124 : I2117 a0 10 = v2077 := (f2120 _ _ (fun q => by have z := ta0; rw [q.1, ta2111] at z; exact absurd z (by decide))).trans c2105
                    have c2125 : I2117 a0 11 = v2080 := (f2120 _ _ (fun q => by have z := ta0; rw [q.1, ta2111] at z; exact absurd z (by decide))).trans c2106
                    have c2126 : I2117 a0 12 = v2084 := (f2120 _ _ (fun q => by have z := ta0; rw [q.1, ta2111] at z; exact absurd z (by decide))).trans c2107
                    have c2127 : I2117 a0 8 = v2086 := (f2120 _ _ (fun q => by have z := ta0; rw [q.1, ta2111] at z; exact absurd z (by decide))).trans c2108
                    have c2128 : I2117 a2092 v37.toNatClampNeg = x1 := (f2120 _ _ (fun q => by have z := ta2092; rw [q.1, ta2111] at z; exact absurd z (by decide))).trans e2100
                    have hO2129 : FrO 14 a1 T I0 I2117 := hO2109.put f2120 ta2111 (Or.inl (by decide))
                    have hM2130 : NmM I2117 R0 L2026 a1 gQ := NmM.kp1 hM2110 f2120 ta2111 rfl rfl hS2099.1 ta1
                    refine tr_aload_n dX12_readEvent_128 rfl ?_
                    refine tr_getR dX12_readEvent_129 fl12_188 (kR15 hS2118.1 ta0) d2 ?_
                    obtain ⟨a2131, d2132, ta2131⟩ := rf14_13 hW0 ta1
                    refine tr_getR dX12_readEvent_132 fl12_280 (kR14 hS2118.1 ta1) d2132 ?_
                    refine tr_iload dX12_readEvent_135 rfl ?_
                    refine tr_iload_n dX12_readEvent_137 rfl ?_
                    refine q_iast dX12_readEvent_138 (kR56 hS2118.1 ta2131) (ti_in (nR56 hS2118.1 ta2131) (by exact om_b14f9e1e b39.2 b39.1 p40 w1884) (by exact om_00437d75 pre18 b31.2 b31.1 p32 b39.2 b39.1 p40 kd66 h1827 p1839 p1840 w1882 w1884 h1892 h1893 h1960 h1962 h2018 h2019 p2043 p2042 b2076.1 h2090 h2091)) hS2118 ta2131 (by show (0 : Int) ≤ v1968.toInt ∧ v1968.toInt ≤ (240 : Int); exact om_b25ef162 b31.2 b31.1 p32 w1882 h1958 h1960 h1962 p1974 p1976 h2021 h2023 p2039 p2040) rfl (by rfl) ?_
                    intro I2133 hS2134 e2136 f2135
                    have c2137 : I2133 a1 2 = v37 := (f2135 _ _ (fun q => by have z := ta1; rw [q.1, ta2131] at z; exact absurd z (by decide))).trans c2121
                    have c2138 : I2133 a0 13 = v2072 := (f2135 _ _ (fun q => by have z := ta0; rw [q.1, ta2131] at z; exact absurd z (by decide))).trans c2122
                    have c2139 : I2133 a0 9 = v2074 := (f2135 _ _ (fun q => by have z := ta0; rw [q.1, ta2131] at z; exact absurd z (by decide))).trans c2123
                    have c2140 : I2133 a0 10 = v2077 := (f2135 _ _ (fun q => by have z := ta0; rw [q.1, ta2131] at z; exact absurd z (by decide))).trans c2124
                    have c2141 : I2133 a0 11 = v2080 := (f2135 _ _ (fun q => by have z := ta0; rw [q.1, ta2131] at z; exact absurd z (by decide))).trans c2125
                    have c2142 : I2133 a0 12 = v2084 := (f2135 _ _ (fun q => by have z := ta0; rw [q.1, ta2131] at z; exact absurd z (by decide))).trans c2126
                    have c2143 : I2133 a0 8 = v2086 := (f2135 _ _ (fun q => by have z := ta0; rw [q.1, ta2131] at z; exact absurd z (by decide))).trans c2127
                    have c2144 : I2133 a2092 v37.toNatClampNeg = x1 := (f2135 _ _ (fun q => by have z := ta2092; rw [q.1, ta2131] at z; exact absurd z (by decide))).trans c2128
                    have c2145 : I2133 a2111 v37.toNatClampNeg = v1908 := (f2135 _ _ (fun q => by have z := ta2111; rw [q.1, ta2131] at z; exact absurd z (by decide))).trans e2119
                    have hO2146 : FrO 14 a1 T I0 I2133 := hO2129.put f2135 ta2131 (Or.inl (by decide))
                    have hM2147 : NmM I2133 R0 L2026 a1 gQ := NmM.kp1 hM2130 f2135 ta2131 rfl rfl hS2118.1 ta1
                    refine tr_aload_n dX12_readEvent_139 rfl ?_
                    refine tr_getR dX12_readEvent_140 fl12_188 (kR15 hS2134.1 ta0) d2 ?_
                    obtain ⟨a2148, d2149, ta2148⟩ := rf14_14 hW0 ta1
                    refine tr_getR dX12_readEvent_143 fl12_283 (kR14 hS2134.1 ta1) d2149 ?_
                    refine tr_iload dX12_readEvent_146 rfl ?_
                    refine tr_iload dX12_readEvent_148 rfl ?_
                    refine q_iast dX12_readEvent_150 (kR57 hS2134.1 ta2148) (ti_in (nR57 hS2134.1 ta2148) (by exact om_b14f9e1e b39.2 b39.1 p40 w1884) (by exact om_00437d75 pre18 b31.2 b31.1 p32 b39.2 b39.1 p40 kd66 h1827 p1839 p1840 w1882 w1884 h1892 h1893 h1960 h1962 h2018 h2019 p2043 p2042 b2076.1 h2090 h2091)) hS2134 ta2148 (by show (0 : Int) ≤ v2029.toInt ∧ v2029.toInt ≤ (240 : Int); exact om_6c1edee8 b31.2 b31.1 p32 w1882 h1958 h1960 h1962 p1974 p1976 h2021 h2023 p2035 p2039 p2040) rfl (by rfl) ?_
                    intro I2150 hS2151 e2153 f2152
                    have c2154 : I2150 a1 2 = v37 := (f2152 _ _ (fun q => by have z := ta1; rw [q.1, ta2148] at z; exact absurd z (by decide))).trans c2137
                    have c2155 : I2150 a0 13 = v2072 := (f2152 _ _ (fun q => by have z := ta0; rw [q.1, ta2148] at z; exact absurd z (by decide))).trans c2138
                    have c2156 : I2150 a0 9 = v2074 := (f2152 _ _ (fun q => by have z := ta0; rw [q.1, ta2148] at z; exact absurd z (by decide))).trans c2139
                    have c2157 : I2150 a0 10 = v2077 := (f2152 _ _ (fun q => by have z := ta0; rw [q.1, ta2148] at z; exact absurd z (by decide))).trans c2140
                    have c2158 : I2150 a0 11 = v2080 := (f2152 _ _ (fun q => by have z := ta0; rw [q.1, ta2148] at z; exact absurd z (by decide))).trans c2141
                    have c2159 : I2150 a0 12 = v2084 := (f2152 _ _ (fun q => by have z := ta0; rw [q.1, ta2148] at z; exact absurd z (by decide))).trans c2142
                    have c2160 : I2150 a0 8 = v2086 := (f2152 _ _ (fun q => by have z := ta0; rw [q.1, ta2148] at z; exact absurd z (by decide))).trans c2143
                    have c2161 : I2150 a2092 v37.toNatClampNeg = x1 := (f2152 _ _ (fun q => by have z := ta2092; rw [q.1, ta2148] at z; exact absurd z (by decide))).trans c2144
                    have c2162 : I2150 a2111 v37.toNatClampNeg = v1908 := (f2152 _ _ (fun q => by have z := ta2111; rw [q.1, ta2148] at z; exact absurd z (by decide))).trans c2145
                    have hO2163 : FrO 14 a1 T I0 I2150 := hO2146.put f2152 ta2148 (Or.inl (by decide))
                    have hM2164 : NmM I2150 R0 L2026 a1 gQ := NmM.kp1 hM2147 f2152 ta2148 rfl rfl hS2134.1 ta1
                    refine tr_aload_n dX12_readEvent_151 rfl ?_
                    refine tr_getR dX12_readEvent_152 fl12_188 (kR15 hS2151.1 ta0) d2 ?_
                    refine tr_dup dX12_readEvent_155 rfl ?_
                    refine q_getI dX12_readEvent_156 fl12_265 (kR14 hS2151.1 ta1) c2154 ?_
                    refine q_iconst dX12_readEvent_159 (by decide) ?_
                    intro v2165 h2166
                    refine q_iaddE dX12_readEvent_160 (by intro j1 j2 j3 j4; exact om_a5745fee b39.2 b39.1 p40 w1884 h2166) ?_
                    intro v2167 h2168
                    refine q_putX dX12_readEvent_161 fl12_265 (kR14 hS2151.1 ta1) (Or.inl rfl) hS2151 ta1 (by decide +kernel) (hS2151.1.putE (i := v37.toNatClampNeg) ta1 d2093 d2112 (by rw [c2154]; exact (ti_nat (by exact om_74bf4760 b39.2 b39.1 p40 w1884 h2166 h2168)).symm) (by rw [c2154]; exact om_5a680f8c p40 w1884 h2166 h2168) (by exact om_dfb6bba8 pre18 b31.2 b31.1 p32 b39.2 b39.1 p40 kd66 h1827 p1839 p1840 w1882 w1884 h1892 h1893 h1960 h1962 h2018 h2019 p2043 p2042 b2076.1 h2090 h2091 h2166 h2168) (by rw [c2161, c2162]; exact om_30d49bde h1898 p1914 p1916)) ?_
                    intro I2169 hS2170 e2171 f2172
                    have c2173 : I2169 a0 13 = v2072 := (f2172 _ _ (fun q => absurd q.2 (by decide))).trans c2155
                    have c2174 : I2169 a0 9 = v2074 := (f2172 _ _ (fun q => absurd q.2 (by decide))).trans c2156
                    have c2175 : I2169 a0 10 = v2077 := (f2172 _ _ (fun q => absurd q.2 (by decide))).trans c2157
                    have c2176 : I2169 a0 11 = v2080 := (f2172 _ _ (fun q => absurd q.2 (by decide))).trans c2158
                    have c2177 : I2169 a0 12 = v2084 := (f2172 _ _ (fun q => absurd q.2 (by decide))).trans c2159
                    have c2178 : I2169 a0 8 = v2086 := (f2172 _ _ (fun q => absurd q.2 (by decide))).trans c2160
                    have c2179 : I2169 a2092 v37.toNatClampNeg = x1 := (f2172 _ _ (fun q => by have z := ta2092; rw [q.1, ta1] at z; exact absurd z (by decide))).trans c2161
                    have c2180 : I2169 a2111 v37.toNatClampNeg = v1908 := (f2172 _ _ (fun q => by have z := ta2111; rw [q.1, ta1] at z; exact absurd z (by decide))).trans c2162
                    have hO2181 : FrO 14 a1 T I0 I2169 := hO2163.put f2172 ta1 (Or.inr rfl)
                    have hM2182 : NmM I2169 R0 L2026 a1 gQ := NmM.kp1 hM2164 f2172 ta1 rfl rfl hS2151.1 ta1
                    have eF := hF.eq
                    have eP := hP.eq
                    have es2183 := evS_c2 (B := gB) (Q := gQ) (k := srt gB gs) (s := (tkN gB gs)) (by exact om_19aee7d3 pre18 kd66)
                    obtain ⟨v2184, c2185⟩ : ∃ v, I2169 a0 14 = v := ⟨_, rfl⟩
                    exact tr_vret hZ dX12_readEvent_164 rfl (by decide) (by decide) ⟨rfl, rfl, rfl, rfl, rfl, hS2170, (fun dr hd => (Option.some.inj (d2.symm.trans hd)) ▸ hO2181), (Or.inl ⟨(by (try rw [w1881]); (try rw [es2183]); first | done | with_reducible assumption | omega), (fun q0 z0 => by obtain rfl := Option.some.inj ((d2).symm.trans z0); (try rw [w1881]); (try rw [es2183]); (try rw [((hS2170.cell ta1 (by decide +kernel)).trans c30)]); first | done | with_reducible assumption | exact om_2757374c p32 w1882), (fun q0 z0 => by obtain rfl := Option.some.inj ((d2).symm.trans z0); (try rw [w1881]); (try rw [es2183]); (try rw [((hS2170.cell ta1 (by decide +kernel)).trans c34)]); first | done | with_reducible assumption | exact om_2757374c p36 w1883), (fun q0 z0 => by obtain rfl := Option.some.inj ((d2).symm.trans z0); (try rw [w1881]); (try rw [es2183]); (try rw [e2171]); first | done | with_reducible assumption | exact om_7149e5be p40 w1884 h2166 h2168), (fun q0 z0 => by obtain rfl := Option.some.inj ((d2).symm.trans z0); (try rw [w1881]); (try rw [es2183]); (try rw [((hS2170.cell ta1 (by decide +kernel)).trans c42)]); first | done | with_reducible assumption | exact om_2757374c p44 w1885), (fun q0 z0 => by obtain rfl := Option.some.inj ((d2).symm.trans z0); (try rw [w1881]); (try rw [es2183]); (try rw [((hS2170.cell ta1 (by decide +kernel)).trans c46)]); first | done | with_reducible assumption | exact om_2757374c p48 w1886), (fun q0 z0 => by obtain rfl := Option.some.inj ((d2).symm.trans z0); (try rw [w1881]); (try rw [es2183]); (try rw [((hS2170.cell ta1 (by decide +kernel)).trans c50)]); first | done | with_reducible assumption | exact om_2757374c p52 w1887), (fun q0 z0 => by obtain rfl := Option.some.inj ((d2).symm.trans z0); (try rw [w1881]); (try rw [es2183]); (try rw [((hS2170.cell ta1 (by decide +kernel)).trans c54)]); first | done | with_reducible assumption | exact om_2757374c p56 w1888), (fun q0 z0 => by obtain rfl := Option.some.inj ((d2).symm.trans z0); (try rw [w1881]); (try rw [es2183]); (try rw [((hS2170.cell ta1 (by decide +kernel)).trans c58)]); first | done | with_reducible assumption | exact om_2757374c p60 w1890), (by (try rw [w1881]); (try rw [es2183]); (try rw [c2173]); (try rw [c65]); first | done | with_reducible assumption | exact om_751d021b p1841 p1918 p1978 p2041), (by (try rw [w1881]); (try rw [es2183]); (try rw [c2174]); first | done | with_reducible assumption | omega), (by (try rw [w1881]); (try rw [es2183]); (try rw [c2174]); first | done | with_reducible assumption | omega), (by (try rw [w1881]); (try rw [es2183]); (try rw [c2175]); first | done | with_reducible assumption | omega), (by (try rw [w1881]); (try rw [es2183]); (try rw [c2176]); first | done | with_reducible assumption | omega), (by (try rw [w1881]); (try rw [es2183]); (try rw [c2083]); first | done | assumption), (by (try rw [w1881]); (try rw [es2183]); (try rw [c2177]); first | done | assumption), (by (try rw [w1881]); (try rw [es2183]); (try rw [c2178]); first | done | assumption), hL2070, (fun b hb => (Option.some.inj (d2.symm.trans hb)) ▸ NmM.ln (NmM.bd (k := srt gB gs) hM2182 (by exact om_630feb56 pre18 kd66) (by exact om_1cc0d699 pre18 kd66)) rfl), trivial⟩), trivial⟩
                  · skip
                    exfalso; exact om_99cda0b7 p2043 p2042 b2076.1 h2090 h2091
                · skip
                  obtain ⟨v2186, c2187⟩ : ∃ v, I2024 a0 9 = v := ⟨_, rfl⟩
                  have b2188 := iv15_9 hS2032.1 ta0 c2187
                  rw [c2187] at p2052
                  obtain ⟨v2189, c2190⟩ : ∃ v, I2024 a0 13 = v := ⟨_, rfl⟩
                  rw [c2190] at p2053
                  obtain ⟨v2191, c2192⟩ : ∃ v, I2024 a0 14 = v := ⟨_, rfl⟩
                  rw [c2192] at p2054
                  replace hF := hF.pos (by exact om_5c733ef2 p2051)
                  replace hP := hP.pos (by exact om_5c733ef2 p2051)
                  refine tr_istore dX12_readEvent_86 (by decide) (by decide) ?_
                  refine sf_oE88 hE hZ hS2032.1 (gB) ta0 (by (try rw [c2187]); first | done | with_reducible assumption | omega) ⟨_, d2⟩ rfl rfl rfl rfl rfl ?_
                  rintro I2193 R2194 L2195 ⟨g2196, p2197, p2198, p2199, -⟩
                  obtain rfl : R0 = R2194 := funext fun a => funext fun j => (g2196.2.2 a j (wm_no rfl)).symm
                  have hS2200 := hS2032.tr g2196 (by decide +kernel) (by decide +kernel)
                  have c2201 : I2193 a1 2 = v37 := (g2196.cell ta1 (by decide +kernel)).trans c2033
                  have c2202 : I2193 a0 9 = v2186 := (g2196.cell ta0 (by decide +kernel)).trans c2187
                  have c2203 : I2193 a0 13 = v2189 := (g2196.cell ta0 (by decide +kernel)).trans c2190
                  have c2204 : I2193 a0 14 = v2191 := (g2196.cell ta0 (by decide +kernel)).trans c2192
                  have hO2205 : FrO 14 a1 T I0 I2193 := hO2034.st g2196 (by decide +kernel)
                  rw [c2202] at p2197
                  rw [c2203] at p2198
                  rw [c2190] at p2198
                  rw [c2204] at p2199
                  rw [c2192] at p2199
                  have eF := hF.eq
                  have eP := hP.eq
                  obtain ⟨v2206, c2207⟩ : ∃ v, I2193 a0 10 = v := ⟨_, rfl⟩
                  have b2208 := iv15_10 hS2200.1 ta0 c2207
                  obtain ⟨v2209, c2210⟩ : ∃ v, I2193 a0 11 = v := ⟨_, rfl⟩
                  obtain ⟨y2211, c2212⟩ : ∃ v, L2195 a0 15 = v := ⟨_, rfl⟩
                  obtain ⟨v2213, c2214⟩ : ∃ v, I2193 a0 12 = v := ⟨_, rfl⟩
                  obtain ⟨v2215, c2216⟩ : ∃ v, I2193 a0 8 = v := ⟨_, rfl⟩
                  have b2217 := iv15_8 hS2200.1 ta0 c2216
                  exact ⟨rfl, rfl, rfl, rfl, rfl, hS2200, (fun dr hd => (Option.some.inj (d2.symm.trans hd)) ▸ hO2205), (Or.inr (⟨(by first | done | with_reducible assumption | exact om_7fac24c5 eF), (by (try rw [c2202]); first | done | with_reducible assumption | omega), (by (try rw [c2203]); first | done | with_reducible assumption | exact om_3345b898 p2053 eF), (by (try rw [c2204]); first | done | with_reducible assumption | exact om_2757374c p2054 eP), trivial⟩)), trivial⟩
                · skip
                  obtain ⟨v2218, c2219⟩ : ∃ v, I2024 a0 9 = v := ⟨_, rfl⟩
                  have b2220 := iv15_9 hS2032.1 ta0 c2219
                  rw [c2219] at p2059
                  obtain ⟨v2221, c2222⟩ : ∃ v, I2024 a0 13 = v := ⟨_, rfl⟩
                  rw [c2222] at p2060
                  obtain ⟨v2223, c2224⟩ : ∃ v, I2024 a0 14 = v := ⟨_, rfl⟩
                  rw [c2224] at p2061
                  replace hF := hF.neg (by exact om_04941ac6 p2056 p2057)
                  replace hP := hP.neg (by exact om_04941ac6 p2056 p2057)
                  replace hF := hF.pos (by exact om_73cc8e29 p2058)
                  replace hP := hP.pos (by exact om_73cc8e29 p2058)
                  refine tr_istore dX12_readEvent_86 (by decide) (by decide) ?_
                  refine sf_oE88 hE hZ hS2032.1 (gB) ta0 (by (try rw [c2219]); first | done | with_reducible assumption | omega) ⟨_, d2⟩ rfl rfl rfl rfl rfl ?_
                  rintro I2225 R2226 L2227 ⟨g2228, p2229, p2230, p2231, -⟩
                  obtain rfl : R0 = R2226 := funext fun a => funext fun j => (g2228.2.2 a j (wm_no rfl)).symm
                  have hS2232 := hS2032.tr g2228 (by decide +kernel) (by decide +kernel)
                  have c2233 : I2225 a1 2 = v37 := (g2228.cell ta1 (by decide +kernel)).trans c2033
                  have c2234 : I2225 a0 9 = v2218 := (g2228.cell ta0 (by decide +kernel)).trans c2219
                  have c2235 : I2225 a0 13 = v2221 := (g2228.cell ta0 (by decide +kernel)).trans c2222
                  have c2236 : I2225 a0 14 = v2223 := (g2228.cell ta0 (by decide +kernel)).trans c2224
                  have hO2237 : FrO 14 a1 T I0 I2225 := hO2034.st g2228 (by decide +kernel)
                  rw [c2234] at p2229
                  rw [c2235] at p2230
                  rw [c2222] at p2230
                  rw [c2236] at p2231
                  rw [c2224] at p2231
                  have eF := hF.eq
                  have eP := hP.eq
                  obtain ⟨v2238, c2239⟩ : ∃ v, I2225 a0 10 = v := ⟨_, rfl⟩
                  have b2240 := iv15_10 hS2232.1 ta0 c2239
                  obtain ⟨v2241, c2242⟩ : ∃ v, I2225 a0 11 = v := ⟨_, rfl⟩
                  obtain ⟨y2243, c2244⟩ : ∃ v, L2227 a0 15 = v := ⟨_, rfl⟩
                  obtain ⟨v2245, c2246⟩ : ∃ v, I2225 a0 12 = v := ⟨_, rfl⟩
                  obtain ⟨v2247, c2248⟩ : ∃ v, I2225 a0 8 = v := ⟨_, rfl⟩
                  have b2249 := iv15_8 hS2232.1 ta0 c2248
                  exact ⟨rfl, rfl, rfl, rfl, rfl, hS2232, (fun dr hd => (Option.some.inj (d2.symm.trans hd)) ▸ hO2237), (Or.inr (⟨(by first | done | with_reducible assumption | exact om_7fac24c5 eF), (by (try rw [c2234]); first | done | with_reducible assumption | omega), (by (try rw [c2235]); first | done | with_reducible assumption | exact om_3345b898 p2060 eF), (by (try rw [c2236]); first | done | with_reducible assumption | exact om_2757374c p2061 eP), trivial⟩)), trivial⟩
                · skip
                  obtain ⟨v2250, c2251⟩ : ∃ v, I2024 a0 9 = v := ⟨_, rfl⟩
                  have b2252 := iv15_9 hS2032.1 ta0 c2251
                  rw [c2251] at p2067
                  obtain ⟨v2253, c2254⟩ : ∃ v, I2024 a0 13 = v := ⟨_, rfl⟩
                  rw [c2254] at p2068
                  obtain ⟨v2255, c2256⟩ : ∃ v, I2024 a0 14 = v := ⟨_, rfl⟩
                  rw [c2256] at p2069
                  replace hF := hF.neg (by exact om_04941ac6 p2063 p2064)
                  replace hP := hP.neg (by exact om_04941ac6 p2063 p2064)
                  replace hF := hF.neg (by exact om_10ed11b5 p2065)
                  replace hP := hP.neg (by exact om_10ed11b5 p2065)
                  replace hF := hF.pos (by exact om_ecc016f6 p32 w1882 h1960 h1962 p1974 h2021 h2023 p2066)
                  replace hP := hP.pos (by exact om_ecc016f6 p32 w1882 h1960 h1962 p1974 h2021 h2023 p2066)
                  refine tr_istore dX12_readEvent_86 (by decide) (by decide) ?_
                  refine sf_oE88 hE hZ hS2032.1 (gB) ta0 (by (try rw [c2251]); first | done | with_reducible assumption | omega) ⟨_, d2⟩ rfl rfl rfl rfl rfl ?_
                  rintro I2257 R2258 L2259 ⟨g2260, p2261, p2262, p2263, -⟩
                  obtain rfl : R0 = R2258 := funext fun a => funext fun j => (g2260.2.2 a j (wm_no rfl)).symm
                  have hS2264 := hS2032.tr g2260 (by decide +kernel) (by decide +kernel)
                  have c2265 : I2257 a1 2 = v37 := (g2260.cell ta1 (by decide +kernel)).trans c2033
                  have c2266 : I2257 a0 9 = v2250 := (g2260.cell ta0 (by decide +kernel)).trans c2251
                  have c2267 : I2257 a0 13 = v2253 := (g2260.cell ta0 (by decide +kernel)).trans c2254
                  have c2268 : I2257 a0 14 = v2255 := (g2260.cell ta0 (by decide +kernel)).trans c2256
                  have hO2269 : FrO 14 a1 T I0 I2257 := hO2034.st g2260 (by decide +kernel)
                  rw [c2266] at p2261
                  rw [c2267] at p2262
                  rw [c2254] at p2262
                  rw [c2268] at p2263
                  rw [c2256] at p2263
                  have eF := hF.eq
                  have eP := hP.eq
                  obtain ⟨v2270, c2271⟩ : ∃ v, I2257 a0 10 = v := ⟨_, rfl⟩
                  have b2272 := iv15_10 hS2264.1 ta0 c2271
                  obtain ⟨v2273, c2274⟩ : ∃ v, I2257 a0 11 = v := ⟨_, rfl⟩
                  obtain ⟨y2275, c2276⟩ : ∃ v, L2259 a0 15 = v := ⟨_, rfl⟩
                  obtain ⟨v2277, c2278⟩ : ∃ v, I2257 a0 12 = v := ⟨_, rfl⟩
                  obtain ⟨v2279, c2280⟩ : ∃ v, I2257 a0 8 = v := ⟨_, rfl⟩
                  have b2281 := iv15_8 hS2264.1 ta0 c2280
                  exact ⟨rfl, rfl, rfl, rfl, rfl, hS2264, (fun dr hd => (Option.some.inj (d2.symm.trans hd)) ▸ hO2269), (Or.inr (⟨(by first | done | with_reducible assumption | exact om_7b84bd42 eF), (by (try rw [c2266]); first | done | with_reducible assumption | omega), (by (try rw [c2267]); first | done | with_reducible assumption | exact om_46d5da87 p2068 eF), (by (try rw [c2268]); first | done | with_reducible assumption | exact om_2757374c p2069 eP), trivial⟩)), trivial⟩
              · skip
                exfalso; exact om_f827e096 pre18 kd66 h2018 h2019
            · skip
              obtain ⟨v2282, c2283⟩ : ∃ v, I1963 a0 9 = v := ⟨_, rfl⟩
              have b2284 := iv15_9 hS1971.1 ta0 c2283
              rw [c2283] at p1989
              obtain ⟨v2285, c2286⟩ : ∃ v, I1963 a0 13 = v := ⟨_, rfl⟩
              rw [c2286] at p1990
              obtain ⟨v2287, c2288⟩ : ∃ v, I1963 a0 14 = v := ⟨_, rfl⟩
              rw [c2288] at p1991
              replace hF := hF.pos (by exact om_73cc8e29 p1988)
              replace hP := hP.pos (by exact om_73cc8e29 p1988)
              refine tr_istore_n dX12_readEvent_57 (by decide) (by decide) ?_
              refine sf_oE58 hE hZ hS1971.1 (gB) ta0 (by (try rw [c2283]); first | done | with_reducible assumption | omega) ⟨_, d2⟩ rfl rfl rfl rfl ?_
              rintro I2289 R2290 L2291 ⟨g2292, p2293, p2294, p2295, -⟩
              obtain rfl : R0 = R2290 := funext fun a => funext fun j => (g2292.2.2 a j (wm_no rfl)).symm
              have hS2296 := hS1971.tr g2292 (by decide +kernel) (by decide +kernel)
              have c2297 : I2289 a1 2 = v37 := (g2292.cell ta1 (by decide +kernel)).trans c1972
              have hO2298 : FrO 14 a1 T I0 I2289 := hO1973.st g2292 (by decide +kernel)
              obtain ⟨v2299, c2300⟩ : ∃ v, I2289 a0 9 = v := ⟨_, rfl⟩
              have b2301 := iv15_9 hS2296.1 ta0 c2300
              rw [c2300] at p2293
              obtain ⟨v2302, c2303⟩ : ∃ v, I2289 a0 13 = v := ⟨_, rfl⟩
              rw [c2303] at p2294
              rw [c2286] at p2294
              obtain ⟨v2304, c2305⟩ : ∃ v, I2289 a0 14 = v := ⟨_, rfl⟩
              rw [c2305] at p2295
              rw [c2288] at p2295
              have eF := hF.eq
              have eP := hP.eq
              obtain ⟨v2306, c2307⟩ : ∃ v, I2289 a0 10 = v := ⟨_, rfl⟩
              have b2308 := iv15_10 hS2296.1 ta0 c2307
              obtain ⟨v2309, c2310⟩ : ∃ v, I2289 a0 11 = v := ⟨_, rfl⟩
              obtain ⟨y2311, c2312⟩ : ∃ v, L2291 a0 15 = v := ⟨_, rfl⟩
              obtain ⟨v2313, c2314⟩ : ∃ v, I2289 a0 12 = v := ⟨_, rfl⟩
              obtain ⟨v2315, c2316⟩ : ∃ v, I2289 a0 8 = v := ⟨_, rfl⟩
              have b2317 := iv15_8 hS2296.1 ta0 c2316
              exact ⟨rfl, rfl, rfl, rfl, rfl, hS2296, (fun dr hd => (Option.some.inj (d2.symm.trans hd)) ▸ hO2298), (Or.inr (⟨(by first | done | with_reducible assumption | exact om_7fac24c5 eF), (by (try rw [c2300]); first | done | with_reducible assumption | omega), (by (try rw [c2303]); first | done | with_reducible assumption | exact om_9adad658 p1990 p2294 eF), (by (try rw [c2305]); first | done | with_reducible assumption | exact om_3998a42e p1991 p2295 eP), trivial⟩)), trivial⟩
            · skip
              obtain ⟨v2318, c2319⟩ : ∃ v, I1963 a0 9 = v := ⟨_, rfl⟩
              have b2320 := iv15_9 hS1971.1 ta0 c2319
              rw [c2319] at p1995
              obtain ⟨v2321, c2322⟩ : ∃ v, I1963 a0 13 = v := ⟨_, rfl⟩
              rw [c2322] at p1996
              obtain ⟨v2323, c2324⟩ : ∃ v, I1963 a0 14 = v := ⟨_, rfl⟩
              rw [c2324] at p1997
              replace hF := hF.neg (by exact om_10ed11b5 p1993)
              replace hP := hP.neg (by exact om_10ed11b5 p1993)
              replace hF := hF.pos (by exact om_41eb13e5 p32 w1882 h1958 h1960 h1962 p1994)
              replace hP := hP.pos (by exact om_41eb13e5 p32 w1882 h1958 h1960 h1962 p1994)
              refine tr_istore_n dX12_readEvent_57 (by decide) (by decide) ?_
              refine sf_oE58 hE hZ hS1971.1 (gB) ta0 (by (try rw [c2319]); first | done | with_reducible assumption | omega) ⟨_, d2⟩ rfl rfl rfl rfl ?_
              rintro I2325 R2326 L2327 ⟨g2328, p2329, p2330, p2331, -⟩
              obtain rfl : R0 = R2326 := funext fun a => funext fun j => (g2328.2.2 a j (wm_no rfl)).symm
              have hS2332 := hS1971.tr g2328 (by decide +kernel) (by decide +kernel)
              have c2333 : I2325 a1 2 = v37 := (g2328.cell ta1 (by decide +kernel)).trans c1972
              have hO2334 : FrO 14 a1 T I0 I2325 := hO1973.st g2328 (by decide +kernel)
              obtain ⟨v2335, c2336⟩ : ∃ v, I2325 a0 9 = v := ⟨_, rfl⟩
              have b2337 := iv15_9 hS2332.1 ta0 c2336
              rw [c2336] at p2329
              obtain ⟨v2338, c2339⟩ : ∃ v, I2325 a0 13 = v := ⟨_, rfl⟩
              rw [c2339] at p2330
              rw [c2322] at p2330
              obtain ⟨v2340, c2341⟩ : ∃ v, I2325 a0 14 = v := ⟨_, rfl⟩
              rw [c2341] at p2331
              rw [c2324] at p2331
              have eF := hF.eq
              have eP := hP.eq
              obtain ⟨v2342, c2343⟩ : ∃ v, I2325 a0 10 = v := ⟨_, rfl⟩
              have b2344 := iv15_10 hS2332.1 ta0 c2343
              obtain ⟨v2345, c2346⟩ : ∃ v, I2325 a0 11 = v := ⟨_, rfl⟩
              obtain ⟨y2347, c2348⟩ : ∃ v, L2327 a0 15 = v := ⟨_, rfl⟩
              obtain ⟨v2349, c2350⟩ : ∃ v, I2325 a0 12 = v := ⟨_, rfl⟩
              obtain ⟨v2351, c2352⟩ : ∃ v, I2325 a0 8 = v := ⟨_, rfl⟩
              have b2353 := iv15_8 hS2332.1 ta0 c2352
              exact ⟨rfl, rfl, rfl, rfl, rfl, hS2332, (fun dr hd => (Option.some.inj (d2.symm.trans hd)) ▸ hO2334), (Or.inr (⟨(by first | done | with_reducible assumption | exact om_7b84bd42 eF), (by (try rw [c2336]); first | done | with_reducible assumption | omega), (by (try rw [c2339]); first | done | with_reducible assumption | exact om_4510ffdb p1996 p2330 eF), (by (try rw [c2341]); first | done | with_reducible assumption | exact om_3998a42e p1997 p2331 eP), trivial⟩)), trivial⟩
          · skip
            obtain ⟨v2354, c2355⟩ : ∃ v, I1903 a0 9 = v := ⟨_, rfl⟩
            have b2356 := iv15_9 hS1911.1 ta0 c2355
            rw [c2355] at p1929
            obtain ⟨v2357, c2358⟩ : ∃ v, I1903 a0 13 = v := ⟨_, rfl⟩
            rw [c2358] at p1930
            obtain ⟨v2359, c2360⟩ : ∃ v, I1903 a0 14 = v := ⟨_, rfl⟩
            rw [c2360] at p1931
            replace hF := hF.pos (by exact om_73cc8e29 p1928)
            replace hP := hP.pos (by exact om_73cc8e29 p1928)
            refine tr_goto 42 dX12_readEvent_37 (by decide) ?_
            refine tr_istore_n dX12_readEvent_42 (by decide) (by decide) ?_
            refine sf_oE43 hE hZ hS1911.1 (gB) ta0 (by (try rw [c2355]); first | done | with_reducible assumption | omega) ⟨_, d2⟩ rfl rfl rfl ?_
            rintro I2361 R2362 L2363 ⟨g2364, p2365, p2366, p2367, -⟩
            obtain rfl : R0 = R2362 := funext fun a => funext fun j => (g2364.2.2 a j (wm_no rfl)).symm
            have hS2368 := hS1911.tr g2364 (by decide +kernel) (by decide +kernel)
            have c2369 : I2361 a1 2 = v37 := (g2364.cell ta1 (by decide +kernel)).trans c1912
            have hO2370 : FrO 14 a1 T I0 I2361 := hO1913.st g2364 (by decide +kernel)
            obtain ⟨v2371, c2372⟩ : ∃ v, I2361 a0 9 = v := ⟨_, rfl⟩
            have b2373 := iv15_9 hS2368.1 ta0 c2372
            rw [c2372] at p2365
            obtain ⟨v2374, c2375⟩ : ∃ v, I2361 a0 13 = v := ⟨_, rfl⟩
            rw [c2375] at p2366
            rw [c2358] at p2366
            obtain ⟨v2376, c2377⟩ : ∃ v, I2361 a0 14 = v := ⟨_, rfl⟩
            rw [c2377] at p2367
            rw [c2360] at p2367
            have eF := hF.eq
            have eP := hP.eq
            obtain ⟨v2378, c2379⟩ : ∃ v, I2361 a0 10 = v := ⟨_, rfl⟩
            have b2380 := iv15_10 hS2368.1 ta0 c2379
            obtain ⟨v2381, c2382⟩ : ∃ v, I2361 a0 11 = v := ⟨_, rfl⟩
            obtain ⟨y2383, c2384⟩ : ∃ v, L2363 a0 15 = v := ⟨_, rfl⟩
            obtain ⟨v2385, c2386⟩ : ∃ v, I2361 a0 12 = v := ⟨_, rfl⟩
            obtain ⟨v2387, c2388⟩ : ∃ v, I2361 a0 8 = v := ⟨_, rfl⟩
            have b2389 := iv15_8 hS2368.1 ta0 c2388
            exact ⟨rfl, rfl, rfl, rfl, rfl, hS2368, (fun dr hd => (Option.some.inj (d2.symm.trans hd)) ▸ hO2370), (Or.inr (⟨(by first | done | with_reducible assumption | exact om_7fac24c5 eF), (by (try rw [c2372]); first | done | with_reducible assumption | omega), (by (try rw [c2375]); first | done | with_reducible assumption | exact om_9adad658 p1930 p2366 eF), (by (try rw [c2377]); first | done | with_reducible assumption | exact om_3998a42e p1931 p2367 eP), trivial⟩)), trivial⟩
          · skip
            obtain ⟨v2390, c2391⟩ : ∃ v, I1903 a0 9 = v := ⟨_, rfl⟩
            have b2392 := iv15_9 hS1911.1 ta0 c2391
            rw [c2391] at p1935
            obtain ⟨v2393, c2394⟩ : ∃ v, I1903 a0 13 = v := ⟨_, rfl⟩
            rw [c2394] at p1936
            obtain ⟨v2395, c2396⟩ : ∃ v, I1903 a0 14 = v := ⟨_, rfl⟩
            rw [c2396] at p1937
            replace hF := hF.neg (by exact om_10ed11b5 p1933)
            replace hP := hP.neg (by exact om_10ed11b5 p1933)
            replace hF := hF.pos (by exact om_41eb13e5 p36 w1883 h1898 h1900 h1902 p1934)
            replace hP := hP.pos (by exact om_41eb13e5 p36 w1883 h1898 h1900 h1902 p1934)
            refine tr_goto 42 dX12_readEvent_37 (by decide) ?_
            refine tr_istore_n dX12_readEvent_42 (by decide) (by decide) ?_
            refine sf_oE43 hE hZ hS1911.1 (gB) ta0 (by (try rw [c2391]); first | done | with_reducible assumption | omega) ⟨_, d2⟩ rfl rfl rfl ?_
            rintro I2397 R2398 L2399 ⟨g2400, p2401, p2402, p2403, -⟩
            obtain rfl : R0 = R2398 := funext fun a => funext fun j => (g2400.2.2 a j (wm_no rfl)).symm
            have hS2404 := hS1911.tr g2400 (by decide +kernel) (by decide +kernel)
            have c2405 : I2397 a1 2 = v37 := (g2400.cell ta1 (by decide +kernel)).trans c1912
            have hO2406 : FrO 14 a1 T I0 I2397 := hO1913.st g2400 (by decide +kernel)
            obtain ⟨v2407, c2408⟩ : ∃ v, I2397 a0 9 = v := ⟨_, rfl⟩
            have b2409 := iv15_9 hS2404.1 ta0 c2408
            rw [c2408] at p2401
            obtain ⟨v2410, c2411⟩ : ∃ v, I2397 a0 13 = v := ⟨_, rfl⟩
            rw [c2411] at p2402
            rw [c2394] at p2402
            obtain ⟨v2412, c2413⟩ : ∃ v, I2397 a0 14 = v := ⟨_, rfl⟩
            rw [c2413] at p2403
            rw [c2396] at p2403
            have eF := hF.eq
            have eP := hP.eq
            obtain ⟨v2414, c2415⟩ : ∃ v, I2397 a0 10 = v := ⟨_, rfl⟩
            have b2416 := iv15_10 hS2404.1 ta0 c2415
            obtain ⟨v2417, c2418⟩ : ∃ v, I2397 a0 11 = v := ⟨_, rfl⟩
            obtain ⟨y2419, c2420⟩ : ∃ v, L2399 a0 15 = v := ⟨_, rfl⟩
            obtain ⟨v2421, c2422⟩ : ∃ v, I2397 a0 12 = v := ⟨_, rfl⟩
            obtain ⟨v2423, c2424⟩ : ∃ v, I2397 a0 8 = v := ⟨_, rfl⟩
            have b2425 := iv15_8 hS2404.1 ta0 c2424
            exact ⟨rfl, rfl, rfl, rfl, rfl, hS2404, (fun dr hd => (Option.some.inj (d2.symm.trans hd)) ▸ hO2406), (Or.inr (⟨(by first | done | with_reducible assumption | exact om_7b84bd42 eF), (by (try rw [c2408]); first | done | with_reducible assumption | omega), (by (try rw [c2411]); first | done | with_reducible assumption | exact om_4510ffdb p1936 p2402 eF), (by (try rw [c2413]); first | done | with_reducible assumption | exact om_3998a42e p1937 p2403 eP), trivial⟩)), trivial⟩
    · skip
      obtain ⟨v2426, c2427⟩ : ∃ v, I1828 a0 9 = v := ⟨_, rfl⟩
      have b2428 := iv15_9 hS1836.1 ta0 c2427
      rw [c2427] at p1851
      obtain ⟨v2429, c2430⟩ : ∃ v, I1828 a0 13 = v := ⟨_, rfl⟩
      rw [c2430] at p1852
      obtain ⟨v2431, c2432⟩ : ∃ v, I1828 a0 14 = v := ⟨_, rfl⟩
      rw [c2432] at p1853
      have p2433 := p61
      unfold Q7M at p2433
      replace hF := hF.pos (by exact om_aff49800 pre18 p40 kd66 h1827 p1850)
      replace hP := hP.pos (by exact om_aff49800 pre18 p40 kd66 h1827 p1850)
      clear p2433
      refine sf_oE13 hE hZ hS1836.1 (gB) ta0 (by (try rw [c2427]); first | done | with_reducible assumption | omega) ⟨_, d2⟩ rfl rfl ?_
      rintro I2434 R2435 L2436 ⟨g2437, p2438, p2439, p2440, -⟩
      obtain rfl : R0 = R2435 := funext fun a => funext fun j => (g2437.2.2 a j (wm_no rfl)).symm
      have hS2441 := hS1836.tr g2437 (by decide +kernel) (by decide +kernel)
      have c2442 : I2434 a1 2 = v37 := (g2437.cell ta1 (by decide +kernel)).trans c1837
      have hO2443 : FrO 14 a1 T I0 I2434 := hO1838.st g2437 (by decide +kernel)
      obtain ⟨v2444, c2445⟩ : ∃ v, I2434 a0 9 = v := ⟨_, rfl⟩
      have b2446 := iv15_9 hS2441.1 ta0 c2445
      rw [c2445] at p2438
      obtain ⟨v2447, c2448⟩ : ∃ v, I2434 a0 13 = v := ⟨_, rfl⟩
      rw [c2448] at p2439
      rw [c2430] at p2439
      obtain ⟨v2449, c2450⟩ : ∃ v, I2434 a0 14 = v := ⟨_, rfl⟩
      rw [c2450] at p2440
      rw [c2432] at p2440
      have eF := hF.eq
      have eP := hP.eq
      obtain ⟨v2451, c2452⟩ : ∃ v, I2434 a0 10 = v := ⟨_, rfl⟩
      have b2453 := iv15_10 hS2441.1 ta0 c2452
      obtain ⟨v2454, c2455⟩ : ∃ v, I2434 a0 11 = v := ⟨_, rfl⟩
      obtain ⟨y2456, c2457⟩ : ∃ v, L2436 a0 15 = v := ⟨_, rfl⟩
      obtain ⟨v2458, c2459⟩ : ∃ v, I2434 a0 12 = v := ⟨_, rfl⟩
      obtain ⟨v2460, c2461⟩ : ∃ v, I2434 a0 8 = v := ⟨_, rfl⟩
      have b2462 := iv15_8 hS2441.1 ta0 c2461
      exact ⟨rfl, rfl, rfl, rfl, rfl, hS2441, (fun dr hd => (Option.some.inj (d2.symm.trans hd)) ▸ hO2443), (Or.inr (⟨(by first | done | with_reducible assumption | exact om_64c62efe eF), (by (try rw [c2445]); first | done | with_reducible assumption | omega), (by (try rw [c2448]); first | done | with_reducible assumption | exact om_7fd518bd p1852 p2439 eF), (by (try rw [c2450]); first | done | with_reducible assumption | exact om_8e6888af p11 p1853 p2440 eP), trivial⟩)), trivial⟩
    · skip
      obtain ⟨v2463, c2464⟩ : ∃ v, I1828 a0 9 = v := ⟨_, rfl⟩
      have b2465 := iv15_9 hS1836.1 ta0 c2464
      rw [c2464] at p1856
      obtain ⟨v2466, c2467⟩ : ∃ v, I1828 a0 13 = v := ⟨_, rfl⟩
      rw [c2467] at p1857
      obtain ⟨v2468, c2469⟩ : ∃ v, I1828 a0 14 = v := ⟨_, rfl⟩
      rw [c2469] at p1858
      have p2470 := p61
      unfold Q7M at p2470
      replace hF := hF.neg (by exact om_f668aee8 pre18 b39.2 b39.1 p40 kd66 h1827 p1854 p1855 p2470)
      replace hP := hP.neg (by exact om_f668aee8 pre18 b39.2 b39.1 p40 kd66 h1827 p1854 p1855 p2470)
      replace hF := hF.pos (by exact om_28200d21 pre18 kd66 p1855 p2470)
      replace hP := hP.pos (by exact om_28200d21 pre18 kd66 p1855 p2470)
      clear p2470
      refine sf_oE13 hE hZ hS1836.1 (gB) ta0 (by (try rw [c2464]); first | done | with_reducible assumption | omega) ⟨_, d2⟩ rfl rfl ?_
      rintro I2471 R2472 L2473 ⟨g2474, p2475, p2476, p2477, -⟩
      obtain rfl : R0 = R2472 := funext fun a => funext fun j => (g2474.2.2 a j (wm_no rfl)).symm
      have hS2478 := hS1836.tr g2474 (by decide +kernel) (by decide +kernel)
      have c2479 : I2471 a1 2 = v37 := (g2474.cell ta1 (by decide +kernel)).trans c1837
      have hO2480 : FrO 14 a1 T I0 I2471 := hO1838.st g2474 (by decide +kernel)
      obtain ⟨v2481, c2482⟩ : ∃ v, I2471 a0 9 = v := ⟨_, rfl⟩
      have b2483 := iv15_9 hS2478.1 ta0 c2482
      rw [c2482] at p2475
      obtain ⟨v2484, c2485⟩ : ∃ v, I2471 a0 13 = v := ⟨_, rfl⟩
      rw [c2485] at p2476
      rw [c2467] at p2476
      obtain ⟨v2486, c2487⟩ : ∃ v, I2471 a0 14 = v := ⟨_, rfl⟩
      rw [c2487] at p2477
      rw [c2469] at p2477
      have eF := hF.eq
      have eP := hP.eq
      obtain ⟨v2488, c2489⟩ : ∃ v, I2471 a0 10 = v := ⟨_, rfl⟩
      have b2490 := iv15_10 hS2478.1 ta0 c2489
      obtain ⟨v2491, c2492⟩ : ∃ v, I2471 a0 11 = v := ⟨_, rfl⟩
      obtain ⟨y2493, c2494⟩ : ∃ v, L2473 a0 15 = v := ⟨_, rfl⟩
      obtain ⟨v2495, c2496⟩ : ∃ v, I2471 a0 12 = v := ⟨_, rfl⟩
      obtain ⟨v2497, c2498⟩ : ∃ v, I2471 a0 8 = v := ⟨_, rfl⟩
      have b2499 := iv15_8 hS2478.1 ta0 c2498
      exact ⟨rfl, rfl, rfl, rfl, rfl, hS2478, (fun dr hd => (Option.some.inj (d2.symm.trans hd)) ▸ hO2480), (Or.inr (⟨(by first | done | with_reducible assumption | exact om_3a8e1f7c eF), (by (try rw [c2482]); first | done | with_reducible assumption | omega), (by (try rw [c2485]); first | done | with_reducible assumption | exact om_1428d4dd p1857 p2476 eF), (by (try rw [c2487]); first | done | with_reducible assumption | exact om_8e6888af p11 p1858 p2477 eP), trivial⟩)), trivial⟩
  · skip
    refine tr_aload_n dX12_readEvent_0 rfl ?_
    refine tr_aload_n dX12_readEvent_1 rfl ?_
    refine tr_getR dX12_readEvent_2 fl12_188 (kR15 hS0.1 ta0) d2 ?_
    refine q_getI dX12_readEvent_5 fl12_265 (kR14 hS0.1 ta1) c38 ?_
    refine q_bipush dX12_readEvent_8 (by decide +kernel) ?_
    intro v2500 h2501
    refine q_callVv hE (M' := mX12_begins) (as := [_, _]) dX12_readEvent_10 lk12_268 inX12_begins seX12_begins myX12_begins (by decide) ⟨by decide, by decide⟩ rfl (kR15 hS0.1 ta0) (Nat.le_of_ble_eq_true rfl) rfl rfl (by decide) (by decide) (fk_X12_begins hS0.1 (gB) (gs) (gQ) ta0 (TxA.kp hT hS0 ta0 rfl rfl rfl (by decide +kernel) (by decide +kernel)) (by (try rw [c4]); first | done | with_reducible assumption | omega) (by (try rw [c4]); first | done | with_reducible assumption | omega) (by (try rw [c9]); first | done | with_reducible assumption | omega) (by (try rw [c13]); first | done | with_reducible assumption | omega) (by (try rw [c16]); first | done | assumption) (by (try rw [c19]); first | done | assumption) (by (try rw [c22]); first | done | assumption) (by (try rw [c26]); first | done | with_reducible assumption | omega) (fun q0 z0 => by obtain rfl := Option.some.inj ((d2).symm.trans z0); (try rw [c30]); first | done | with_reducible assumption | omega) (by first | done | with_reducible assumption | omega) ⟨_, d2⟩) ?_
    rintro cn' K' N' I2502 R2503 L2504 ⟨rfl, rfl, rfl, rfl, g2505, dj2508, -⟩
    have hM2509 : NmM I2502 R0 L0 a1 gQ := NmM.kpS hM0 g2505 hS0.1 ta1 (by decide +kernel) (by decide +kernel)
    have hS2510 := hS0.tr g2505 (by decide +kernel) (by decide +kernel)
    have c2511 : I2502 a1 2 = v37 := (g2505.cell ta1 (by decide +kernel)).trans c38
    have hO2512 : FrO 14 a1 T I0 I2502 := hO0.st g2505 (by decide +kernel)
    rcases dj2508 with ⟨p2513, p2514, p2515, p2516, p2517, p2518, p2519, p2520, p2521, p2522, gl2523, -⟩ | ⟨p2524, p2525, p2526, p2527, -⟩ | ⟨p2528, p2529, p2530, p2531, p2532, -⟩
    · skip
      have hL2533 := hL0.tr gl2523 (by decide +kernel)
      have hM2534 : NmM I2502 R0 L2504 a1 gQ := NmM.kpL hM2509 gl2523 hS2510.1 ta1 (by decide +kernel)
      obtain ⟨v2535, c2536⟩ : ∃ v, I2502 a0 13 = v := ⟨_, rfl⟩
      rw [c2536] at p2515
      rw [c65] at p2515
      obtain ⟨v2537, c2538⟩ : ∃ v, I2502 a0 9 = v := ⟨_, rfl⟩
      have b2539 := iv15_9 hS2510.1 ta0 c2538
      rw [c2538] at p2516
      rw [c2538] at p2517
      obtain ⟨v2540, c2541⟩ : ∃ v, I2502 a0 10 = v := ⟨_, rfl⟩
      have b2542 := iv15_10 hS2510.1 ta0 c2541
      rw [c2541] at p2518
      obtain ⟨v2543, c2544⟩ : ∃ v, I2502 a0 11 = v := ⟨_, rfl⟩
      rw [c2544] at p2519
      obtain ⟨y2545, c2546⟩ : ∃ v, L2504 a0 15 = v := ⟨_, rfl⟩
      rw [c2546] at p2520
      obtain ⟨v2547, c2548⟩ : ∃ v, I2502 a0 12 = v := ⟨_, rfl⟩
      rw [c2548] at p2521
      obtain ⟨v2549, c2550⟩ : ∃ v, I2502 a0 8 = v := ⟨_, rfl⟩
      have b2551 := iv15_8 hS2510.1 ta0 c2550
      rw [c2550] at p2522
      have p2552 := p61
      unfold Q7M at p2552
      replace hF := hF.neg (by exact om_27dd1d8d pre18 b31.2 b31.1 p32 b39.2 b39.1 p40 kd66 h2501 p2513 p2514 p2552)
      replace hP := hP.neg (by exact om_27dd1d8d pre18 b31.2 b31.1 p32 b39.2 b39.1 p40 kd66 h2501 p2513 p2514 p2552)
      replace hF := hF.neg (by exact om_f8fa812d pre18 kd66 p2514 p2552)
      replace hP := hP.neg (by exact om_f8fa812d pre18 kd66 p2514 p2552)
      clear p2552
      obtain ⟨w2553, w2554, w2555, w2556, w2557, w2558, w2559, w2560, w2561, w2562, w2563, w2564⟩ := lnl_e (B := gB) (Q := gQ) (s := gs) (by exact om_ed139458 pre18 kd66) (by exact om_01a49edf pre18 kd66)
      replace hF := hF.to w2553 (evF_c4 (B := gB) (Q := gQ) (k := srt gB gs) (s := (tkN gB gs)) (by exact om_edeb1aa6 pre18 kd66))
      replace hP := hP.to w2554 (evP_c4 (B := gB) (Q := gQ) (k := srt gB gs) (s := (tkN gB gs)) (by exact om_edeb1aa6 pre18 kd66))
      refine tr_iload_n dX12_readEvent_13 rfl ?_
      refine q_iconst dX12_readEvent_14 (by decide) ?_
      intro v2565 h2566
      refine q_icmp_eq 23 dX12_readEvent_15 (by decide) (fun h2567 => ?_) (fun h2567 => ?_)
      · skip
        exfalso; exact om_c68046e3 pre18 kd66 h2566 h2567
      · skip
        refine tr_iload_n dX12_readEvent_18 rfl ?_
        refine q_iconst dX12_readEvent_19 (by decide) ?_
        intro v2568 h2569
        refine q_icmp_ne 40 dX12_readEvent_20 (by decide) (fun h2570 => ?_) (fun h2570 => ?_)
        · skip
          refine q_bipush dX12_readEvent_40 (by decide +kernel) ?_
          intro v2571 h2572
          refine tr_istore_n dX12_readEvent_42 (by decide) (by decide) ?_
          refine tr_aload_n dX12_readEvent_43 rfl ?_
          refine q_iconst dX12_readEvent_44 (by decide) ?_
          intro v2573 h2574
          refine tr_aload_n dX12_readEvent_45 rfl ?_
          refine tr_getR dX12_readEvent_46 fl12_188 (kR15 hS2510.1 ta0) d2 ?_
          refine q_getI dX12_readEvent_49 fl12_192 (kR14 hS2510.1 ta1) ((hS2510.cell ta1 (by decide +kernel)).trans c30) ?_
          refine q_iconst dX12_readEvent_52 (by decide) ?_
          intro v2575 h2576
          refine q_isubE dX12_readEvent_53 (by intro j1 j2 j3 j4; exact om_6479810f b31.2 b31.1 p32 w2556 h2576) ?_
          intro v2577 h2578
          refine q_callVi hE (M' := mX12_readWhole) (as := [_, _]) dX12_readEvent_54 lk12_161 inX12_readWhole seX12_readWhole myX12_readWhole (by decide) ⟨by decide, by decide⟩ rfl (kR15 hS2510.1 ta0) (Nat.le_of_ble_eq_true rfl) rfl rfl (by decide) (by decide) (fk_X12_readWhole hS2510.1 (gB) ((tkN gB gs)) ta0 (TxA.kp hT hS2510 ta0 rfl rfl rfl (by decide +kernel) (by decide +kernel)) (by (try rw [c2538]); first | done | with_reducible assumption | omega) (by (try rw [c2538]); first | done | with_reducible assumption | omega) (by (try rw [c2541]); first | done | with_reducible assumption | omega) (by (try rw [c2544]); first | done | with_reducible assumption | omega) (by (try rw [c2546]); first | done | assumption) (by (try rw [c2548]); first | done | assumption) (by (try rw [c2550]); first | done | assumption) (by (try rw [((hS2510.cell ta0 (by decide +kernel)).trans c26)]); first | done | with_reducible assumption | omega)) ?_
          rintro v2584 cn' K' N' I2579 R2580 L2581 ⟨rfl, rfl, rfl, rfl, g2582, dj2585, -⟩
          have hM2586 : NmM I2579 R0 L2504 a1 gQ := NmM.kpS hM2534 g2582 hS2510.1 ta1 (by decide +kernel) (by decide +kernel)
          have hS2587 := hS2510.tr g2582 (by decide +kernel) (by decide +kernel)
          have c2588 : I2579 a1 2 = v37 := (g2582.cell ta1 (by decide +kernel)).trans c2511
          have hO2589 : FrO 14 a1 T I0 I2579 := hO2512.st g2582 (by decide +kernel)
          rcases dj2585 with ⟨p2590, p2591, p2592, p2593, p2594, p2595, p2596, p2597, p2598, p2599, p2600, p2601, gl2602, -⟩ | ⟨p2603, p2604, p2605, p2606, p2607, -⟩ | ⟨p2608, p2609, p2610, p2611, p2612, p2613, -⟩
          · skip
            have hL2614 := hL2533.tr gl2602 (by decide +kernel)
            have hM2615 : NmM I2579 R0 L2581 a1 gQ := NmM.kpL hM2586 gl2602 hS2587.1 ta1 (by decide +kernel)
            obtain ⟨v2616, c2617⟩ : ∃ v, I2579 a0 13 = v := ⟨_, rfl⟩
            rw [c2617] at p2594
            rw [c2536] at p2594
            obtain ⟨v2618, c2619⟩ : ∃ v, I2579 a0 9 = v := ⟨_, rfl⟩
            have b2620 := iv15_9 hS2587.1 ta0 c2619
            rw [c2619] at p2595
            rw [c2619] at p2596
            obtain ⟨v2621, c2622⟩ : ∃ v, I2579 a0 10 = v := ⟨_, rfl⟩
            have b2623 := iv15_10 hS2587.1 ta0 c2622
            rw [c2622] at p2597
            obtain ⟨v2624, c2625⟩ : ∃ v, I2579 a0 11 = v := ⟨_, rfl⟩
            rw [c2625] at p2598
            obtain ⟨y2626, c2627⟩ : ∃ v, L2581 a0 15 = v := ⟨_, rfl⟩
            rw [c2627] at p2599
            obtain ⟨v2628, c2629⟩ : ∃ v, I2579 a0 12 = v := ⟨_, rfl⟩
            rw [c2629] at p2600
            obtain ⟨v2630, c2631⟩ : ∃ v, I2579 a0 8 = v := ⟨_, rfl⟩
            have b2632 := iv15_8 hS2587.1 ta0 c2631
            rw [c2631] at p2601
            replace hF := hF.neg (by exact om_10ed11b5 p2591)
            replace hP := hP.neg (by exact om_10ed11b5 p2591)
            replace hF := hF.neg (by exact om_4062d996 p32 w2556 h2574 h2576 h2578 p2592 p2593)
            replace hP := hP.neg (by exact om_4062d996 p32 w2556 h2574 h2576 h2578 p2592 p2593)
            refine tr_istore_n dX12_readEvent_57 (by decide) (by decide) ?_
            refine tr_iload_n dX12_readEvent_58 rfl ?_
            refine q_iconst dX12_readEvent_59 (by decide) ?_
            intro v2633 h2634
            refine q_icmp_ne 69 dX12_readEvent_60 (by decide) (fun h2635 => ?_) (fun h2635 => ?_)
            · skip
              exfalso; exact om_90155b10 pre18 kd66 h2634 h2635
            · skip
              refine tr_iload_n dX12_readEvent_63 rfl ?_
              refine q_iconst dX12_readEvent_64 (by decide) ?_
              intro v2636 h2637
              refine q_iaddE dX12_readEvent_65 (by intro j1 j2 j3 j4; exact om_5e7b6990 b31.2 b31.1 p32 w2556 h2574 h2576 h2578 p2590 p2592 p2593 h2637 j2) ?_
              intro v2638 h2639
              refine tr_goto 86 dX12_readEvent_66 (by decide) ?_
              refine tr_istore dX12_readEvent_86 (by decide) (by decide) ?_
              refine tr_aload_n dX12_readEvent_88 rfl ?_
              refine q_getI dX12_readEvent_89 fl12_99 (kR15 hS2587.1 ta0) c2619 ?_
              refine q_iconst dX12_readEvent_92 (by decide) ?_
              intro v2640 h2641
              refine q_icmp_ne 97 dX12_readEvent_93 (by decide) (fun h2642 => ?_) (fun h2642 => ?_)
              · skip
                refine tr_aload_n dX12_readEvent_97 rfl ?_
                refine tr_getR dX12_readEvent_98 fl12_188 (kR15 hS2587.1 ta0) d2 ?_
                refine q_getI dX12_readEvent_101 fl12_265 (kR14 hS2587.1 ta1) c2588 ?_
                refine tr_istore dX12_readEvent_104 (by decide) (by decide) ?_
                refine tr_aload_n dX12_readEvent_106 rfl ?_
                refine tr_getR dX12_readEvent_107 fl12_188 (kR15 hS2587.1 ta0) d2 ?_
                obtain ⟨a2643, d2644, ta2643⟩ := rf14_11 hW0 ta1
                refine tr_getR dX12_readEvent_110 fl12_274 (kR14 hS2587.1 ta1) d2644 ?_
                refine tr_iload dX12_readEvent_113 rfl ?_
                refine tr_iload_n dX12_readEvent_115 rfl ?_
                refine q_iastX dX12_readEvent_116 (kR54 hS2587.1 ta2643) (ti_in (nR54 hS2587.1 ta2643) (by exact om_b14f9e1e b39.2 b39.1 p40 w2558) (by exact om_29049203 pre18 b31.2 b31.1 p32 b39.2 b39.1 p40 kd66 h2501 p2513 p2514 w2556 w2558 h2566 h2567 h2569 h2570 h2576 h2578 p2596 p2595 b2620.1 h2641 h2642)) hS2587 ta2643 (by rfl) (hS2587.1.putK (m := a1) ta1 d2644 (by rw [c2588]; exact Int.le_of_eq (ti_nat (by exact om_b14f9e1e b39.2 b39.1 p40 w2558)).symm)) ?_
                intro I2649 hS2650 e2651 f2652
                have c2653 : I2649 a1 2 = v37 := (f2652 _ _ (fun q => by have z := ta1; rw [q.1, ta2643] at z; exact absurd z (by decide))).trans c2588
                have c2654 : I2649 a0 13 = v2616 := (f2652 _ _ (fun q => by have z := ta0; rw [q.1, ta2643] at z; exact absurd z (by decide))).trans c2617
                have c2655 : I2649 a0 9 = v2618 := (f2652 _ _ (fun q => by have z := ta0; rw [q.1, ta2643] at z; exact absurd z (by decide))).trans c2619
                have c2656 : I2649 a0 10 = v2621 := (f2652 _ _ (fun q => by have z := ta0; rw [q.1, ta2643] at z; exact absurd z (by decide))).trans c2622
                have c2657 : I2649 a0 11 = v2624 := (f2652 _ _ (fun q => by have z := ta0; rw [q.1, ta2643] at z; exact absurd z (by decide))).trans c2625
                have c2658 : I2649 a0 12 = v2628 := (f2652 _ _ (fun q => by have z := ta0; rw [q.1, ta2643] at z; exact absurd z (by decide))).trans c2629
                have c2659 : I2649 a0 8 = v2630 := (f2652 _ _ (fun q => by have z := ta0; rw [q.1, ta2643] at z; exact absurd z (by decide))).trans c2631
                have hO2660 : FrO 14 a1 T I0 I2649 := hO2589.put f2652 ta2643 (Or.inl (by decide))
                have hM2661 : NmM I2649 R0 L2581 a1 gQ := NmM.kp1 hM2615 f2652 ta2643 rfl rfl hS2587.1 ta1
                refine tr_aload_n dX12_readEvent_117 rfl ?_
                refine tr_getR dX12_readEvent_118 fl12_188 (kR15 hS2650.1 ta0) d2 ?_
                obtain ⟨a2662, d2663, ta2662⟩ := rf14_12 hW0 ta1
                refine tr_getR dX12_readEvent_121 fl12_277 (kR14 hS2650.1 ta1) d2663 ?_
                refine tr_iload dX12_readEvent_124 rfl ?_
                refine tr_iload_n dX12_readEvent_126 rfl ?_
                refine q_iastX dX12_readEvent_127 (kR55 hS2650.1 ta2662) (ti_in (nR55 hS2650.1 ta2662) (by exact om_b14f9e1e b39.2 b39.1 p40 w2558) (by exact om_29049203 pre18 b31.2 b31.1 p32 b39.2 b39.1 p40 kd66 h2501 p2513 p2514 w2556 w2558 h2566 h2567 h2569 h2570 h2576 h2578 p2596 p2595 b2620.1 h2641 h2642)) hS2650 ta2662 (by rfl) (hS2650.1.putH (m := a1) ta1 d2663 (by rw [c2653]; exact Int.le_of_eq (ti_nat (by exact om_b14f9e1e b39.2 b39.1 p40 w2558)).symm) (by exact om_9bdeced0 h2572)) ?_
                intro I2668 hS2669 e2670 f2671
                have c2672 : I2668 a1 2 = v37 := (f2671 _ _ (fun q => by have z := ta1; rw [q.1, ta2662] at z; exact absurd z (by decide))).trans c2653
                have c2673 : I2668 a0 13 = v2616 := (f2671 _ _ (fun q => by have z := ta0; rw [q.1, ta2662] at z; exact absurd z (by decide))).trans c2654
                have c2674 : I2668 a0 9 = v2618 := (f2671 _ _ (fun q => by have z := ta0; rw [q.1, ta2662] at z; exact absurd z (by decide))).trans c2655
                have c2675 : I2668 a0 10 = v2621 := (f2671 _ _ (fun q => by have z := ta0; rw [q.1, ta2662] at z; exact absurd z (by decide))).trans c2656
                have c2676 : I2668 a0 11 = v2624 := (f2671 _ _ (fun q => by have z := ta0; rw [q.1, ta2662] at z; exact absurd z (by decide))).trans c2657
                have c2677 : I2668 a0 12 = v2628 := (f2671 _ _ (fun q => by have z := ta0; rw [q.1, ta2662] at z; exact absurd z (by decide))).trans c2658
                have c2678 : I2668 a0 8 = v2630 := (f2671 _ _ (fun q => by have z := ta0; rw [q.1, ta2662] at z; exact absurd z (by decide))).trans c2659
                have c2679 : I2668 a2643 v37.toNatClampNeg = x1 := (f2671 _ _ (fun q => by have z := ta2643; rw [q.1, ta2662] at z; exact absurd z (by decide))).trans e2651
                have hO2680 : FrO 14 a1 T I0 I2668 := hO2660.put f2671 ta2662 (Or.inl (by decide))
                have hM2681 : NmM I2668 R0 L2581 a1 gQ := NmM.kp1 hM2661 f2671 ta2662 rfl rfl hS2650.1 ta1
                refine tr_aload_n dX12_readEvent_128 rfl ?_
                refine tr_getR dX12_readEvent_129 fl12_188 (kR15 hS2669.1 ta0) d2 ?_
                obtain ⟨a2682, d2683, ta2682⟩ := rf14_13 hW0 ta1
                refine tr_getR dX12_readEvent_132 fl12_280 (kR14 hS2669.1 ta1) d2683 ?_
                refine tr_iload dX12_readEvent_135 rfl ?_
                refine tr_iload_n dX12_readEvent_137 rfl ?_
                refine q_iast dX12_readEvent_138 (kR56 hS2669.1 ta2682) (ti_in (nR56 hS2669.1 ta2682) (by exact om_b14f9e1e b39.2 b39.1 p40 w2558) (by exact om_29049203 pre18 b31.2 b31.1 p32 b39.2 b39.1 p40 kd66 h2501 p2513 p2514 w2556 w2558 h2566 h2567 h2569 h2570 h2576 h2578 p2596 p2595 b2620.1 h2641 h2642)) hS2669 ta2682 (by show (0 : Int) ≤ v2584.toInt ∧ v2584.toInt ≤ (240 : Int); exact om_0f0d8164 b31.2 b31.1 p32 w2556 h2574 h2576 h2578 p2590 p2592 p2593 h2637 h2639) rfl (by rfl) ?_
                intro I2684 hS2685 e2687 f2686
                have c2688 : I2684 a1 2 = v37 := (f2686 _ _ (fun q => by have z := ta1; rw [q.1, ta2682] at z; exact absurd z (by decide))).trans c2672
                have c2689 : I2684 a0 13 = v2616 := (f2686 _ _ (fun q => by have z := ta0; rw [q.1, ta2682] at z; exact absurd z (by decide))).trans c2673
                have c2690 : I2684 a0 9 = v2618 := (f2686 _ _ (fun q => by have z := ta0; rw [q.1, ta2682] at z; exact absurd z (by decide))).trans c2674
                have c2691 : I2684 a0 10 = v2621 := (f2686 _ _ (fun q => by have z := ta0; rw [q.1, ta2682] at z; exact absurd z (by decide))).trans c2675
                have c2692 : I2684 a0 11 = v2624 := (f2686 _ _ (fun q => by have z := ta0; rw [q.1, ta2682] at z; exact absurd z (by decide))).trans c2676
                have c2693 : I2684 a0 12 = v2628 := (f2686 _ _ (fun q => by have z := ta0; rw [q.1, ta2682] at z; exact absurd z (by decide))).trans c2677
                have c2694 : I2684 a0 8 = v2630 := (f2686 _ _ (fun q => by have z := ta0; rw [q.1, ta2682] at z; exact absurd z (by decide))).trans c2678
                have c2695 : I2684 a2643 v37.toNatClampNeg = x1 := (f2686 _ _ (fun q => by have z := ta2643; rw [q.1, ta2682] at z; exact absurd z (by decide))).trans c2679
                have c2696 : I2684 a2662 v37.toNatClampNeg = v2571 := (f2686 _ _ (fun q => by have z := ta2662; rw [q.1, ta2682] at z; exact absurd z (by decide))).trans e2670
                have hO2697 : FrO 14 a1 T I0 I2684 := hO2680.put f2686 ta2682 (Or.inl (by decide))
                have hM2698 : NmM I2684 R0 L2581 a1 gQ := NmM.kp1 hM2681 f2686 ta2682 rfl rfl hS2669.1 ta1
                refine tr_aload_n dX12_readEvent_139 rfl ?_
                refine tr_getR dX12_readEvent_140 fl12_188 (kR15 hS2685.1 ta0) d2 ?_
                obtain ⟨a2699, d2700, ta2699⟩ := rf14_14 hW0 ta1
                refine tr_getR dX12_readEvent_143 fl12_283 (kR14 hS2685.1 ta1) d2700 ?_
                refine tr_iload dX12_readEvent_146 rfl ?_
                refine tr_iload dX12_readEvent_148 rfl ?_
                refine q_iast dX12_readEvent_150 (kR57 hS2685.1 ta2699) (ti_in (nR57 hS2685.1 ta2699) (by exact om_b14f9e1e b39.2 b39.1 p40 w2558) (by exact om_29049203 pre18 b31.2 b31.1 p32 b39.2 b39.1 p40 kd66 h2501 p2513 p2514 w2556 w2558 h2566 h2567 h2569 h2570 h2576 h2578 p2596 p2595 b2620.1 h2641 h2642)) hS2685 ta2699 (by show (0 : Int) ≤ v2638.toInt ∧ v2638.toInt ≤ (240 : Int); exact om_938cf39b b31.2 b31.1 p32 w2556 h2574 h2576 h2578 p2590 p2592 p2593 h2637 h2639) rfl (by rfl) ?_
                intro I2701 hS2702 e2704 f2703
                have c2705 : I2701 a1 2 = v37 := (f2703 _ _ (fun q => by have z := ta1; rw [q.1, ta2699] at z; exact absurd z (by decide))).trans c2688
                have c2706 : I2701 a0 13 = v2616 := (f2703 _ _ (fun q => by have z := ta0; rw [q.1, ta2699] at z; exact absurd z (by decide))).trans c2689
                have c2707 : I2701 a0 9 = v2618 := (f2703 _ _ (fun q => by have z := ta0; rw [q.1, ta2699] at z; exact absurd z (by decide))).trans c2690
                have c2708 : I2701 a0 10 = v2621 := (f2703 _ _ (fun q => by have z := ta0; rw [q.1, ta2699] at z; exact absurd z (by decide))).trans c2691
                have c2709 : I2701 a0 11 = v2624 := (f2703 _ _ (fun q => by have z := ta0; rw [q.1, ta2699] at z; exact absurd z (by decide))).trans c2692
                have c2710 : I2701 a0 12 = v2628 := (f2703 _ _ (fun q => by have z := ta0; rw [q.1, ta2699] at z; exact absurd z (by decide))).trans c2693
                have c2711 : I2701 a0 8 = v2630 := (f2703 _ _ (fun q => by have z := ta0; rw [q.1, ta2699] at z; exact absurd z (by decide))).trans c2694
                have c2712 : I2701 a2643 v37.toNatClampNeg = x1 := (f2703 _ _ (fun q => by have z := ta2643; rw [q.1, ta2699] at z; exact absurd z (by decide))).trans c2695
                have c2713 : I2701 a2662 v37.toNatClampNeg = v2571 := (f2703 _ _ (fun q => by have z := ta2662; rw [q.1, ta2699] at z; exact absurd z (by decide))).trans c2696
                have hO2714 : FrO 14 a1 T I0 I2701 := hO2697.put f2703 ta2699 (Or.inl (by decide))
                have hM2715 : NmM I2701 R0 L2581 a1 gQ := NmM.kp1 hM2698 f2703 ta2699 rfl rfl hS2685.1 ta1
                refine tr_aload_n dX12_readEvent_151 rfl ?_
                refine tr_getR dX12_readEvent_152 fl12_188 (kR15 hS2702.1 ta0) d2 ?_
                refine tr_dup dX12_readEvent_155 rfl ?_
                refine q_getI dX12_readEvent_156 fl12_265 (kR14 hS2702.1 ta1) c2705 ?_
                refine q_iconst dX12_readEvent_159 (by decide) ?_
                intro v2716 h2717
                refine q_iaddE dX12_readEvent_160 (by intro j1 j2 j3 j4; exact om_a5745fee b39.2 b39.1 p40 w2558 h2717) ?_
                intro v2718 h2719
                refine q_putX dX12_readEvent_161 fl12_265 (kR14 hS2702.1 ta1) (Or.inl rfl) hS2702 ta1 (by decide +kernel) (hS2702.1.putE (i := v37.toNatClampNeg) ta1 d2644 d2663 (by rw [c2705]; exact (ti_nat (by exact om_74bf4760 b39.2 b39.1 p40 w2558 h2717 h2719)).symm) (by rw [c2705]; exact om_5a680f8c p40 w2558 h2717 h2719) (by exact om_7c0a874e pre18 b31.2 b31.1 p32 b39.2 b39.1 p40 kd66 h2501 p2513 p2514 w2556 w2558 h2566 h2567 h2569 h2570 h2576 h2578 p2596 p2595 b2620.1 h2641 h2642 h2717 h2719) (by rw [c2712, c2713]; exact om_936f3118 pre18 kd66)) ?_
                intro I2720 hS2721 e2722 f2723
                have c2724 : I2720 a0 13 = v2616 := (f2723 _ _ (fun q => absurd q.2 (by decide))).trans c2706
                have c2725 : I2720 a0 9 = v2618 := (f2723 _ _ (fun q => absurd q.2 (by decide))).trans c2707
                have c2726 : I2720 a0 10 = v2621 := (f2723 _ _ (fun q => absurd q.2 (by decide))).trans c2708
                have c2727 : I2720 a0 11 = v2624 := (f2723 _ _ (fun q => absurd q.2 (by decide))).trans c2709
                have c2728 : I2720 a0 12 = v2628 := (f2723 _ _ (fun q => absurd q.2 (by decide))).trans c2710
                have c2729 : I2720 a0 8 = v2630 := (f2723 _ _ (fun q => absurd q.2 (by decide))).trans c2711
                have c2730 : I2720 a2643 v37.toNatClampNeg = x1 := (f2723 _ _ (fun q => by have z := ta2643; rw [q.1, ta1] at z; exact absurd z (by decide))).trans c2712
                have c2731 : I2720 a2662 v37.toNatClampNeg = v2571 := (f2723 _ _ (fun q => by have z := ta2662; rw [q.1, ta1] at z; exact absurd z (by decide))).trans c2713
                have hO2732 : FrO 14 a1 T I0 I2720 := hO2714.put f2723 ta1 (Or.inr rfl)
                have hM2733 : NmM I2720 R0 L2581 a1 gQ := NmM.kp1 hM2715 f2723 ta1 rfl rfl hS2702.1 ta1
                have eF := hF.eq
                have eP := hP.eq
                have es2734 := evS_c4 (B := gB) (Q := gQ) (k := srt gB gs) (s := (tkN gB gs)) (by exact om_edeb1aa6 pre18 kd66)
                obtain ⟨v2735, c2736⟩ : ∃ v, I2720 a0 14 = v := ⟨_, rfl⟩
                exact tr_vret hZ dX12_readEvent_164 rfl (by decide) (by decide) ⟨rfl, rfl, rfl, rfl, rfl, hS2721, (fun dr hd => (Option.some.inj (d2.symm.trans hd)) ▸ hO2732), (Or.inl ⟨(by (try rw [w2555]); (try rw [es2734]); first | done | with_reducible assumption | omega), (fun q0 z0 => by obtain rfl := Option.some.inj ((d2).symm.trans z0); (try rw [w2555]); (try rw [es2734]); (try rw [((hS2721.cell ta1 (by decide +kernel)).trans c30)]); first | done | with_reducible assumption | exact om_2757374c p32 w2556), (fun q0 z0 => by obtain rfl := Option.some.inj ((d2).symm.trans z0); (try rw [w2555]); (try rw [es2734]); (try rw [((hS2721.cell ta1 (by decide +kernel)).trans c34)]); first | done | with_reducible assumption | exact om_2757374c p36 w2557), (fun q0 z0 => by obtain rfl := Option.some.inj ((d2).symm.trans z0); (try rw [w2555]); (try rw [es2734]); (try rw [e2722]); first | done | with_reducible assumption | exact om_7149e5be p40 w2558 h2717 h2719), (fun q0 z0 => by obtain rfl := Option.some.inj ((d2).symm.trans z0); (try rw [w2555]); (try rw [es2734]); (try rw [((hS2721.cell ta1 (by decide +kernel)).trans c42)]); first | done | with_reducible assumption | exact om_2757374c p44 w2559), (fun q0 z0 => by obtain rfl := Option.some.inj ((d2).symm.trans z0); (try rw [w2555]); (try rw [es2734]); (try rw [((hS2721.cell ta1 (by decide +kernel)).trans c46)]); first | done | with_reducible assumption | exact om_2757374c p48 w2560), (fun q0 z0 => by obtain rfl := Option.some.inj ((d2).symm.trans z0); (try rw [w2555]); (try rw [es2734]); (try rw [((hS2721.cell ta1 (by decide +kernel)).trans c50)]); first | done | with_reducible assumption | exact om_2757374c p52 w2561), (fun q0 z0 => by obtain rfl := Option.some.inj ((d2).symm.trans z0); (try rw [w2555]); (try rw [es2734]); (try rw [((hS2721.cell ta1 (by decide +kernel)).trans c54)]); first | done | with_reducible assumption | exact om_2757374c p56 w2562), (fun q0 z0 => by obtain rfl := Option.some.inj ((d2).symm.trans z0); (try rw [w2555]); (try rw [es2734]); (try rw [((hS2721.cell ta1 (by decide +kernel)).trans c58)]); first | done | with_reducible assumption | exact om_2757374c p60 w2564), (by (try rw [w2555]); (try rw [es2734]); (try rw [c2724]); (try rw [c65]); first | done | with_reducible assumption | exact om_9fa72578 p2515 p2594), (by (try rw [w2555]); (try rw [es2734]); (try rw [c2725]); first | done | with_reducible assumption | omega), (by (try rw [w2555]); (try rw [es2734]); (try rw [c2725]); first | done | with_reducible assumption | omega), (by (try rw [w2555]); (try rw [es2734]); (try rw [c2726]); first | done | with_reducible assumption | omega), (by (try rw [w2555]); (try rw [es2734]); (try rw [c2727]); first | done | with_reducible assumption | omega), (by (try rw [w2555]); (try rw [es2734]); (try rw [c2627]); first | done | assumption), (by (try rw [w2555]); (try rw [es2734]); (try rw [c2728]); first | done | assumption), (by (try rw [w2555]); (try rw [es2734]); (try rw [c2729]); first | done | assumption), hL2614, (fun b hb => (Option.some.inj (d2.symm.trans hb)) ▸ NmM.ln (NmM.bd (k := srt gB gs) hM2733 (by exact om_cbb2008c pre18 kd66) (by exact om_70a72f99 pre18 kd66)) rfl), trivial⟩), trivial⟩
              · skip
                exfalso; exact om_99cda0b7 p2596 p2595 b2620.1 h2641 h2642
          · skip
            obtain ⟨v2737, c2738⟩ : ∃ v, I2579 a0 9 = v := ⟨_, rfl⟩
            have b2739 := iv15_9 hS2587.1 ta0 c2738
            rw [c2738] at p2605
            obtain ⟨v2740, c2741⟩ : ∃ v, I2579 a0 13 = v := ⟨_, rfl⟩
            rw [c2741] at p2606
            obtain ⟨v2742, c2743⟩ : ∃ v, I2579 a0 14 = v := ⟨_, rfl⟩
            rw [c2743] at p2607
            replace hF := hF.pos (by exact om_73cc8e29 p2604)
            replace hP := hP.pos (by exact om_73cc8e29 p2604)
            refine tr_istore_n dX12_readEvent_57 (by decide) (by decide) ?_
            refine sf_oE58 hE hZ hS2587.1 (gB) ta0 (by (try rw [c2738]); first | done | with_reducible assumption | omega) ⟨_, d2⟩ rfl rfl rfl rfl ?_
            rintro I2744 R2745 L2746 ⟨g2747, p2748, p2749, p2750, -⟩
            obtain rfl : R0 = R2745 := funext fun a => funext fun j => (g2747.2.2 a j (wm_no rfl)).symm
            have hS2751 := hS2587.tr g2747 (by decide +kernel) (by decide +kernel)
            have c2752 : I2744 a1 2 = v37 := (g2747.cell ta1 (by decide +kernel)).trans c2588
            have hO2753 : FrO 14 a1 T I0 I2744 := hO2589.st g2747 (by decide +kernel)
            obtain ⟨v2754, c2755⟩ : ∃ v, I2744 a0 9 = v := ⟨_, rfl⟩
            have b2756 := iv15_9 hS2751.1 ta0 c2755
            rw [c2755] at p2748
            obtain ⟨v2757, c2758⟩ : ∃ v, I2744 a0 13 = v := ⟨_, rfl⟩
            rw [c2758] at p2749
            rw [c2741] at p2749
            obtain ⟨v2759, c2760⟩ : ∃ v, I2744 a0 14 = v := ⟨_, rfl⟩
            rw [c2760] at p2750
            rw [c2743] at p2750
            have eF := hF.eq
            have eP := hP.eq
            obtain ⟨v2761, c2762⟩ : ∃ v, I2744 a0 10 = v := ⟨_, rfl⟩
            have b2763 := iv15_10 hS2751.1 ta0 c2762
            obtain ⟨v2764, c2765⟩ : ∃ v, I2744 a0 11 = v := ⟨_, rfl⟩
            obtain ⟨y2766, c2767⟩ : ∃ v, L2746 a0 15 = v := ⟨_, rfl⟩
            obtain ⟨v2768, c2769⟩ : ∃ v, I2744 a0 12 = v := ⟨_, rfl⟩
            obtain ⟨v2770, c2771⟩ : ∃ v, I2744 a0 8 = v := ⟨_, rfl⟩
            have b2772 := iv15_8 hS2751.1 ta0 c2771
            exact ⟨rfl, rfl, rfl, rfl, rfl, hS2751, (fun dr hd => (Option.some.inj (d2.symm.trans hd)) ▸ hO2753), (Or.inr (⟨(by first | done | with_reducible assumption | exact om_7fac24c5 eF), (by (try rw [c2755]); first | done | with_reducible assumption | omega), (by (try rw [c2758]); first | done | with_reducible assumption | exact om_9adad658 p2606 p2749 eF), (by (try rw [c2760]); first | done | with_reducible assumption | exact om_3998a42e p2607 p2750 eP), trivial⟩)), trivial⟩
          · skip
            obtain ⟨v2773, c2774⟩ : ∃ v, I2579 a0 9 = v := ⟨_, rfl⟩
            have b2775 := iv15_9 hS2587.1 ta0 c2774
            rw [c2774] at p2611
            obtain ⟨v2776, c2777⟩ : ∃ v, I2579 a0 13 = v := ⟨_, rfl⟩
            rw [c2777] at p2612
            obtain ⟨v2778, c2779⟩ : ∃ v, I2579 a0 14 = v := ⟨_, rfl⟩
            rw [c2779] at p2613
            replace hF := hF.neg (by exact om_10ed11b5 p2609)
            replace hP := hP.neg (by exact om_10ed11b5 p2609)
            replace hF := hF.pos (by exact om_41eb13e5 p32 w2556 h2574 h2576 h2578 p2610)
            replace hP := hP.pos (by exact om_41eb13e5 p32 w2556 h2574 h2576 h2578 p2610)
            refine tr_istore_n dX12_readEvent_57 (by decide) (by decide) ?_
            refine sf_oE58 hE hZ hS2587.1 (gB) ta0 (by (try rw [c2774]); first | done | with_reducible assumption | omega) ⟨_, d2⟩ rfl rfl rfl rfl ?_
            rintro I2780 R2781 L2782 ⟨g2783, p2784, p2785, p2786, -⟩
            obtain rfl : R0 = R2781 := funext fun a => funext fun j => (g2783.2.2 a j (wm_no rfl)).symm
            have hS2787 := hS2587.tr g2783 (by decide +kernel) (by decide +kernel)
            have c2788 : I2780 a1 2 = v37 := (g2783.cell ta1 (by decide +kernel)).trans c2588
            have hO2789 : FrO 14 a1 T I0 I2780 := hO2589.st g2783 (by decide +kernel)
            obtain ⟨v2790, c2791⟩ : ∃ v, I2780 a0 9 = v := ⟨_, rfl⟩
            have b2792 := iv15_9 hS2787.1 ta0 c2791
            rw [c2791] at p2784
            obtain ⟨v2793, c2794⟩ : ∃ v, I2780 a0 13 = v := ⟨_, rfl⟩
            rw [c2794] at p2785
            rw [c2777] at p2785
            obtain ⟨v2795, c2796⟩ : ∃ v, I2780 a0 14 = v := ⟨_, rfl⟩
            rw [c2796] at p2786
            rw [c2779] at p2786
            have eF := hF.eq
            have eP := hP.eq
            obtain ⟨v2797, c2798⟩ : ∃ v, I2780 a0 10 = v := ⟨_, rfl⟩
            have b2799 := iv15_10 hS2787.1 ta0 c2798
            obtain ⟨v2800, c2801⟩ : ∃ v, I2780 a0 11 = v := ⟨_, rfl⟩
            obtain ⟨y2802, c2803⟩ : ∃ v, L2782 a0 15 = v := ⟨_, rfl⟩
            obtain ⟨v2804, c2805⟩ : ∃ v, I2780 a0 12 = v := ⟨_, rfl⟩
            obtain ⟨v2806, c2807⟩ : ∃ v, I2780 a0 8 = v := ⟨_, rfl⟩
            have b2808 := iv15_8 hS2787.1 ta0 c2807
            exact ⟨rfl, rfl, rfl, rfl, rfl, hS2787, (fun dr hd => (Option.some.inj (d2.symm.trans hd)) ▸ hO2789), (Or.inr (⟨(by first | done | with_reducible assumption | exact om_7b84bd42 eF), (by (try rw [c2791]); first | done | with_reducible assumption | omega), (by (try rw [c2794]); first | done | with_reducible assumption | exact om_4510ffdb p2612 p2785 eF), (by (try rw [c2796]); first | done | with_reducible assumption | exact om_3998a42e p2613 p2786 eP), trivial⟩)), trivial⟩
        · skip
          exfalso; exact om_f9d76a5e pre18 kd66 h2569 h2570
    · skip
      obtain ⟨v2809, c2810⟩ : ∃ v, I2502 a0 9 = v := ⟨_, rfl⟩
      have b2811 := iv15_9 hS2510.1 ta0 c2810
      rw [c2810] at p2525
      obtain ⟨v2812, c2813⟩ : ∃ v, I2502 a0 13 = v := ⟨_, rfl⟩
      rw [c2813] at p2526
      obtain ⟨v2814, c2815⟩ : ∃ v, I2502 a0 14 = v := ⟨_, rfl⟩
      rw [c2815] at p2527
      have p2816 := p61
      unfold Q7M at p2816
      replace hF := hF.pos (by exact om_9248c015 pre18 p40 kd66 h2501 p2524)
      replace hP := hP.pos (by exact om_9248c015 pre18 p40 kd66 h2501 p2524)
      clear p2816
      refine sf_oE13 hE hZ hS2510.1 (gB) ta0 (by (try rw [c2810]); first | done | with_reducible assumption | omega) ⟨_, d2⟩ rfl rfl ?_
      rintro I2817 R2818 L2819 ⟨g2820, p2821, p2822, p2823, -⟩
      obtain rfl : R0 = R2818 := funext fun a => funext fun j => (g2820.2.2 a j (wm_no rfl)).symm
      have hS2824 := hS2510.tr g2820 (by decide +kernel) (by decide +kernel)
      have c2825 : I2817 a1 2 = v37 := (g2820.cell ta1 (by decide +kernel)).trans c2511
      have hO2826 : FrO 14 a1 T I0 I2817 := hO2512.st g2820 (by decide +kernel)
      obtain ⟨v2827, c2828⟩ : ∃ v, I2817 a0 9 = v := ⟨_, rfl⟩
      have b2829 := iv15_9 hS2824.1 ta0 c2828
      rw [c2828] at p2821
      obtain ⟨v2830, c2831⟩ : ∃ v, I2817 a0 13 = v := ⟨_, rfl⟩
      rw [c2831] at p2822
      rw [c2813] at p2822
      obtain ⟨v2832, c2833⟩ : ∃ v, I2817 a0 14 = v := ⟨_, rfl⟩
      rw [c2833] at p2823
      rw [c2815] at p2823
      have eF := hF.eq
      have eP := hP.eq
      obtain ⟨v2834, c2835⟩ : ∃ v, I2817 a0 10 = v := ⟨_, rfl⟩
      have b2836 := iv15_10 hS2824.1 ta0 c2835
      obtain ⟨v2837, c2838⟩ : ∃ v, I2817 a0 11 = v := ⟨_, rfl⟩
      obtain ⟨y2839, c2840⟩ : ∃ v, L2819 a0 15 = v := ⟨_, rfl⟩
      obtain ⟨v2841, c2842⟩ : ∃ v, I2817 a0 12 = v := ⟨_, rfl⟩
      obtain ⟨v2843, c2844⟩ : ∃ v, I2817 a0 8 = v := ⟨_, rfl⟩
      have b2845 := iv15_8 hS2824.1 ta0 c2844
      exact ⟨rfl, rfl, rfl, rfl, rfl, hS2824, (fun dr hd => (Option.some.inj (d2.symm.trans hd)) ▸ hO2826), (Or.inr (⟨(by first | done | with_reducible assumption | exact om_64c62efe eF), (by (try rw [c2828]); first | done | with_reducible assumption | omega), (by (try rw [c2831]); first | done | with_reducible assumption | exact om_7fd518bd p2526 p2822 eF), (by (try rw [c2833]); first | done | with_reducible assumption | exact om_8e6888af p11 p2527 p2823 eP), trivial⟩)), trivial⟩
    · skip
      obtain ⟨v2846, c2847⟩ : ∃ v, I2502 a0 9 = v := ⟨_, rfl⟩
      have b2848 := iv15_9 hS2510.1 ta0 c2847
      rw [c2847] at p2530
      obtain ⟨v2849, c2850⟩ : ∃ v, I2502 a0 13 = v := ⟨_, rfl⟩
      rw [c2850] at p2531
      obtain ⟨v2851, c2852⟩ : ∃ v, I2502 a0 14 = v := ⟨_, rfl⟩
      rw [c2852] at p2532
      have p2853 := p61
      unfold Q7M at p2853
      replace hF := hF.neg (by exact om_d39d341b pre18 b39.2 b39.1 p40 kd66 h2501 p2528 p2529 p2853)
      replace hP := hP.neg (by exact om_d39d341b pre18 b39.2 b39.1 p40 kd66 h2501 p2528 p2529 p2853)
      replace hF := hF.pos (by exact om_cb55ece5 pre18 kd66 p2529 p2853)
      replace hP := hP.pos (by exact om_cb55ece5 pre18 kd66 p2529 p2853)
      clear p2853
      refine sf_oE13 hE hZ hS2510.1 (gB) ta0 (by (try rw [c2847]); first | done | with_reducible assumption | omega) ⟨_, d2⟩ rfl rfl ?_
      rintro I2854 R2855 L2856 ⟨g2857, p2858, p2859, p2860, -⟩
      obtain rfl : R0 = R2855 := funext fun a => funext fun j => (g2857.2.2 a j (wm_no rfl)).symm
      have hS2861 := hS2510.tr g2857 (by decide +kernel) (by decide +kernel)
      have c2862 : I2854 a1 2 = v37 := (g2857.cell ta1 (by decide +kernel)).trans c2511
      have hO2863 : FrO 14 a1 T I0 I2854 := hO2512.st g2857 (by decide +kernel)
      obtain ⟨v2864, c2865⟩ : ∃ v, I2854 a0 9 = v := ⟨_, rfl⟩
      have b2866 := iv15_9 hS2861.1 ta0 c2865
      rw [c2865] at p2858
      obtain ⟨v2867, c2868⟩ : ∃ v, I2854 a0 13 = v := ⟨_, rfl⟩
      rw [c2868] at p2859
      rw [c2850] at p2859
      obtain ⟨v2869, c2870⟩ : ∃ v, I2854 a0 14 = v := ⟨_, rfl⟩
      rw [c2870] at p2860
      rw [c2852] at p2860
      have eF := hF.eq
      have eP := hP.eq
      obtain ⟨v2871, c2872⟩ : ∃ v, I2854 a0 10 = v := ⟨_, rfl⟩
      have b2873 := iv15_10 hS2861.1 ta0 c2872
      obtain ⟨v2874, c2875⟩ : ∃ v, I2854 a0 11 = v := ⟨_, rfl⟩
      obtain ⟨y2876, c2877⟩ : ∃ v, L2856 a0 15 = v := ⟨_, rfl⟩
      obtain ⟨v2878, c2879⟩ : ∃ v, I2854 a0 12 = v := ⟨_, rfl⟩
      obtain ⟨v2880, c2881⟩ : ∃ v, I2854 a0 8 = v := ⟨_, rfl⟩
      have b2882 := iv15_8 hS2861.1 ta0 c2881
      exact ⟨rfl, rfl, rfl, rfl, rfl, hS2861, (fun dr hd => (Option.some.inj (d2.symm.trans hd)) ▸ hO2863), (Or.inr (⟨(by first | done | with_reducible assumption | exact om_3a8e1f7c eF), (by (try rw [c2865]); first | done | with_reducible assumption | omega), (by (try rw [c2868]); first | done | with_reducible assumption | exact om_1428d4dd p2531 p2859 eF), (by (try rw [c2870]); first | done | with_reducible assumption | exact om_8e6888af p11 p2532 p2860 eP), trivial⟩)), trivial⟩
def wik_X12_readCheese : List Nat := [899, 903, 968, 969, 970, 971, 972, 973, 974, 3775, 4031, 4799, 4863]
def wrk_X12_readCheese : List Nat := []
def wlk_X12_readCheese : List Nat := [975, 4735]
set_option maxHeartbeats 4000000 in
theorem fk_X12_readCheese {l : Launch} {T : Nat → Nat} {cn : Nat} {K N : Nat → Nat} {I0 : cz_I} {R0 : cz_R} {L0 : cz_L} (hW0 : Wf T cn K N I0 R0 0) (gB : cz_B) (gs : Int) (gQ : Nat → Int) {a0 : Nat} (ta0 : T a0 = 15) (hT : ∀ t, R0 a0 5 = some t → Tx I0 t gB) (hN : ∀ b, R0 a0 4 = some b → NmM I0 R0 L0 b gQ) (pre0 : (I0 a0 9).toInt = (tkM gB gs)) (pre1 : (I0 a0 9).toInt ≤ 4) (pre2 : (I0 a0 10).toInt = (tkS gB gs)) (pre3 : (I0 a0 11).toInt = (tkG gB gs)) (pre4 : (AtW ((tkK gB gs)) ((L0 a0 15).toInt) ((tkW gB gs)))) (pre5 : (AtV ((tkK gB gs)) ((I0 a0 12).toInt) ((tkV gB gs)))) (pre6 : (AtN ((tkK gB gs)) ((I0 a0 8).toInt) ((tkN gB gs)))) (pre7 : (I0 a0 7).toInt = (gB.2)) (pre8 : ∀ b1, R0 a0 4 = some b1 → (I0 b1 0).toInt = (gQ 0)) (pre9 : ∀ b1, R0 a0 4 = some b1 → (I0 b1 1).toInt = (gQ 1)) (pre10 : ∀ b1, R0 a0 4 = some b1 → (I0 b1 2).toInt = (gQ 2)) (pre11 : ∀ b1, R0 a0 4 = some b1 → (I0 b1 3).toInt = (gQ 3)) (pre12 : ∀ b1, R0 a0 4 = some b1 → (I0 b1 4).toInt = (gQ 4)) (pre13 : ∀ b1, R0 a0 4 = some b1 → (I0 b1 5).toInt = (gQ 5)) (pre14 : ∀ b1, R0 a0 4 = some b1 → (I0 b1 6).toInt = (gQ 6)) (pre15 : ∀ b1, R0 a0 4 = some b1 → (I0 b1 9).toInt = (gQ 8)) (pre16 : (Q7M ((gQ 0)) ((gQ 7)))) (pre17 : (tkK gB gs) = 1) (pre18 : (srt gB gs) = 5) (nn4 : ∃ b, R0 a0 4 = some b) : ConE l mX12_readCheese [.ref a0] cn K N I0 R0 L0 (ca_v (fun cn' K' N' I' R' L' => cn = cn' ∧ K = K' ∧ N = N' ∧ R0 = R' ∧ St T cn K N 0 wik_X12_readCheese wrk_X12_readCheese I0 R0 I' R0 ∧ (∀ dr, R0 a0 4 = some dr → FrO 14 dr T I0 I') ∧ ((((lnF gB gQ gs) = 0) ∧ (∀ b1, R0 a0 4 = some b1 → (I' b1 0).toInt = (lnQ gB gQ gs 0)) ∧ (∀ b1, R0 a0 4 = some b1 → (I' b1 1).toInt = (lnQ gB gQ gs 1)) ∧ (∀ b1, R0 a0 4 = some b1 → (I' b1 2).toInt = (lnQ gB gQ gs 2)) ∧ (∀ b1, R0 a0 4 = some b1 → (I' b1 3).toInt = (lnQ gB gQ gs 3)) ∧ (∀ b1, R0 a0 4 = some b1 → (I' b1 4).toInt = (lnQ gB gQ gs 4)) ∧ (∀ b1, R0 a0 4 = some b1 → (I' b1 5).toInt = (lnQ gB gQ gs 5)) ∧ (∀ b1, R0 a0 4 = some b1 → (I' b1 6).toInt = (lnQ gB gQ gs 6)) ∧ (∀ b1, R0 a0 4 = some b1 → (I' b1 9).toInt = (lnQ gB gQ gs 8)) ∧ ((I' a0 13).toInt = (I0 a0 13).toInt) ∧ ((I' a0 9).toInt = (tkM gB (lnS gB gQ gs))) ∧ ((I' a0 9).toInt ≤ 4) ∧ ((I' a0 10).toInt = (tkS gB (lnS gB gQ gs))) ∧ ((I' a0 11).toInt = (tkG gB (lnS gB gQ gs))) ∧ ((AtW ((tkK gB (lnS gB gQ gs))) ((L' a0 15).toInt) ((tkW gB (lnS gB gQ gs))))) ∧ ((AtV ((tkK gB (lnS gB gQ gs))) ((I' a0 12).toInt) ((tkV gB (lnS gB gQ gs))))) ∧ ((AtN ((tkK gB (lnS gB gQ gs))) ((I' a0 8).toInt) ((tkN gB (lnS gB gQ gs))))) ∧ LgS T wlk_X12_readCheese L0 L' ∧ (∀ b, R0 a0 4 = some b → NmM I' R0 L' b (lnQ gB gQ gs)) ∧ True) ∨ (((lnF gB gQ gs) ≠ 0) ∧ ((I' a0 9).toInt = 5) ∧ ((I' a0 13).toInt = (lnF gB gQ gs)) ∧ ((I' a0 14).toInt = (lnP gB gQ gs)) ∧ True)) ∧ True)) := by
  refine ConE.of (by decide +kernel) rfl (Nat.le_of_ble_eq_true rfl) rfl (fun X hX hZ hE => ?_)
  subst hX
  have hS0 : St T cn K N 0 wik_X12_readCheese wrk_X12_readCheese I0 R0 I0 R0 := St.rf0 hW0
  have hL0 : LgS T wlk_X12_readCheese L0 L0 := LgS.rf0
  obtain ⟨a1, d2⟩ := nn4
  have ta1 : T a1 = 14 := hW0.rsN ta0 rfl d2
  obtain ⟨v3, c4⟩ : ∃ v, I0 a0 9 = v := ⟨_, rfl⟩
  have b5 := iv15_9 hS0.1 ta0 c4
  have p6 := pre0
  rw [c4] at p6
  have p7 := pre1
  rw [c4] at p7
  obtain ⟨v8, c9⟩ : ∃ v, I0 a0 10 = v := ⟨_, rfl⟩
  have b10 := iv15_10 hS0.1 ta0 c9
  have p11 := pre2
  rw [c9] at p11
  obtain ⟨v12, c13⟩ : ∃ v, I0 a0 11 = v := ⟨_, rfl⟩
  have p14 := pre3
  rw [c13] at p14
  obtain ⟨y15, c16⟩ : ∃ v, L0 a0 15 = v := ⟨_, rfl⟩
  have p17 := pre4
  rw [c16] at p17
  obtain ⟨v18, c19⟩ : ∃ v, I0 a0 12 = v := ⟨_, rfl⟩
  have p20 := pre5
  rw [c19] at p20
  obtain ⟨v21, c22⟩ : ∃ v, I0 a0 8 = v := ⟨_, rfl⟩
  have b23 := iv15_8 hS0.1 ta0 c22
  have p24 := pre6
  rw [c22] at p24
  obtain ⟨v25, c26⟩ : ∃ v, I0 a0 7 = v := ⟨_, rfl⟩
  have b27 := iv15_7 hW0 ta0 c26
  have p28 := pre7
  rw [c26] at p28
  obtain ⟨v29, c30⟩ : ∃ v, I0 a1 0 = v := ⟨_, rfl⟩
  have b31 := iv14_0 hW0 ta1 c30
  have p32 := pre8 _ d2
  rw [c30] at p32
  obtain ⟨v33, c34⟩ : ∃ v, I0 a1 1 = v := ⟨_, rfl⟩
  have b35 := iv14_1 hW0 ta1 c34
  have p36 := pre9 _ d2
  rw [c34] at p36
  obtain ⟨v37, c38⟩ : ∃ v, I0 a1 2 = v := ⟨_, rfl⟩
  have b39 := iv14_2 hW0 ta1 c38
  have p40 := pre10 _ d2
  rw [c38] at p40
  obtain ⟨v41, c42⟩ : ∃ v, I0 a1 3 = v := ⟨_, rfl⟩
  have b43 := iv14_3 hS0.1 ta1 c42
  have p44 := pre11 _ d2
  rw [c42] at p44
  obtain ⟨v45, c46⟩ : ∃ v, I0 a1 4 = v := ⟨_, rfl⟩
  have b47 := iv14_4 hW0 ta1 c46
  have p48 := pre12 _ d2
  rw [c46] at p48
  obtain ⟨v49, c50⟩ : ∃ v, I0 a1 5 = v := ⟨_, rfl⟩
  have b51 := iv14_5 hW0 ta1 c50
  have p52 := pre13 _ d2
  rw [c50] at p52
  obtain ⟨v53, c54⟩ : ∃ v, I0 a1 6 = v := ⟨_, rfl⟩
  have b55 := iv14_6 hW0 ta1 c54
  have p56 := pre14 _ d2
  rw [c54] at p56
  obtain ⟨v57, c58⟩ : ∃ v, I0 a1 9 = v := ⟨_, rfl⟩
  have b59 := iv14_9 hW0 ta1 c58
  have p60 := pre15 _ d2
  rw [c58] at p60
  have p61 := pre16
  have p62 := pre17
  have p63 := pre18
  obtain ⟨v64, c65⟩ : ∃ v, I0 a0 13 = v := ⟨_, rfl⟩
  have hM0 := hN _ d2
  have hO0 : FrO 14 a1 T I0 I0 := FrO.rf
  have hF := lnF_ch gB gQ gs
  have hP := lnP_ch gB gQ gs
  replace hF := hF.neg (by exact om_b3972d7c pre18)
  replace hP := hP.neg (by exact om_b3972d7c pre18)
  replace hF := hF.neg (by exact om_2aa94efc pre18)
  replace hP := hP.neg (by exact om_2aa94efc pre18)
  refine tr_aload_n dX12_readCheese_0 rfl ?_
  refine tr_aload_n dX12_readCheese_1 rfl ?_
  refine tr_getR dX12_readCheese_2 fl12_188 (kR15 hS0.1 ta0) d2 ?_
  refine q_getI dX12_readCheese_5 fl12_224 (kR14 hS0.1 ta1) c42 ?_
  refine q_bipush dX12_readCheese_8 (by decide +kernel) ?_
  intro v66 h67
  refine q_callVv hE (M' := mX12_begins) (as := [_, _]) dX12_readCheese_10 lk12_268 inX12_begins seX12_begins myX12_begins (by decide) ⟨by decide, by decide⟩ rfl (kR15 hS0.1 ta0) (Nat.le_of_ble_eq_true rfl) rfl rfl (by decide) (by decide) (fk_X12_begins hS0.1 (gB) (gs) (gQ) ta0 (TxA.kp hT hS0 ta0 rfl rfl rfl (by decide +kernel) (by decide +kernel)) (by (try rw [c4]); first | done | with_reducible assumption | omega) (by (try rw [c4]); first | done | with_reducible assumption | omega) (by (try rw [c9]); first | done | with_reducible assumption | omega) (by (try rw [c13]); first | done | with_reducible assumption | omega) (by (try rw [c16]); first | done | assumption) (by (try rw [c19]); first | done | assumption) (by (try rw [c22]); first | done | assumption) (by (try rw [c26]); first | done | with_reducible assumption | omega) (fun q0 z0 => by obtain rfl := Option.some.inj ((d2).symm.trans z0); (try rw [c30]); first | done | with_reducible assumption | omega) (by first | done | with_reducible assumption | omega) ⟨_, d2⟩) ?_
  rintro cn' K' N' I68 R69 L70 ⟨rfl, rfl, rfl, rfl, g71, dj74, -⟩
  have hM75 : NmM I68 R0 L0 a1 gQ := NmM.kpS hM0 g71 hS0.1 ta1 (by decide +kernel) (by decide +kernel)
  have hS76 := hS0.tr g71 (by decide +kernel) (by decide +kernel)
  have c77 : I68 a1 3 = v41 := (g71.cell ta1 (by decide +kernel)).trans c42
  have hO78 : FrO 14 a1 T I0 I68 := hO0.st g71 (by decide +kernel)
  rcases dj74 with ⟨p79, p80, p81, p82, p83, p84, p85, p86, p87, p88, gl89, -⟩ | ⟨p90, p91, p92, p93, -⟩ | ⟨p94, p95, p96, p97, p98, -⟩
  · skip
    have hL99 := hL0.tr gl89 (by decide +kernel)
    have hM100 : NmM I68 R0 L70 a1 gQ := NmM.kpL hM75 gl89 hS76.1 ta1 (by decide +kernel)
    obtain ⟨v101, c102⟩ : ∃ v, I68 a0 13 = v := ⟨_, rfl⟩
    rw [c102] at p81
    rw [c65] at p81
    obtain ⟨v103, c104⟩ : ∃ v, I68 a0 9 = v := ⟨_, rfl⟩
    have b105 := iv15_9 hS76.1 ta0 c104
    rw [c104] at p82
    rw [c104] at p83
    obtain ⟨v106, c107⟩ : ∃ v, I68 a0 10 = v := ⟨_, rfl⟩
    have b108 := iv15_10 hS76.1 ta0 c107
    rw [c107] at p84
    obtain ⟨v109, c110⟩ : ∃ v, I68 a0 11 = v := ⟨_, rfl⟩
    rw [c110] at p85
    obtain ⟨y111, c112⟩ : ∃ v, L70 a0 15 = v := ⟨_, rfl⟩
    rw [c112] at p86
    obtain ⟨v113, c114⟩ : ∃ v, I68 a0 12 = v := ⟨_, rfl⟩
    rw [c114] at p87
    obtain ⟨v115, c116⟩ : ∃ v, I68 a0 8 = v := ⟨_, rfl⟩
    have b117 := iv15_8 hS76.1 ta0 c116
    rw [c116] at p88
    have p118 := p61
    unfold Q7M at p118
    replace hF := hF.neg (by exact om_0c740e82 pre18 b31.2 b31.1 p32 b43.2 b43.1 p44 h67 p79 p80 p118)
    replace hP := hP.neg (by exact om_0c740e82 pre18 b31.2 b31.1 p32 b43.2 b43.1 p44 h67 p79 p80 p118)
    replace hF := hF.neg (by exact om_298e8933 pre18 p80 p118)
    replace hP := hP.neg (by exact om_298e8933 pre18 p80 p118)
    clear p118
    obtain ⟨w119, w120, w121, w122, w123, w124, w125, w126, w127, w128, w129, w130⟩ := lnl_5 (B := gB) (Q := gQ) (s := gs) (by exact om_394b70a2 p63)
    replace hF := hF.to w119 (chF_ch gB gQ (tkN gB gs))
    replace hP := hP.to w120 (chP_ch gB gQ (tkN gB gs))
    refine tr_aload_n dX12_readCheese_13 rfl ?_
    refine q_callVl hE (M' := mX12_readFresh) (as := []) dX12_readCheese_14 lk12_285 inX12_readFresh seX12_readFresh myX12_readFresh (by decide) ⟨by decide, by decide⟩ rfl (kR15 hS76.1 ta0) (Nat.le_of_ble_eq_true rfl) rfl rfl (by decide) (by decide) (fk_X12_readFresh hS76.1 (gB) ((tkN gB gs)) (gQ) ta0 (TxA.kp hT hS76 ta0 rfl rfl rfl (by decide +kernel) (by decide +kernel)) (fun b hb => (Option.some.inj (d2.symm.trans hb)) ▸ hM100) (by (try rw [c104]); first | done | with_reducible assumption | omega) (by (try rw [c104]); first | done | with_reducible assumption | omega) (by (try rw [c107]); first | done | with_reducible assumption | omega) (by (try rw [c110]); first | done | with_reducible assumption | omega) (by (try rw [c112]); first | done | assumption) (by (try rw [c114]); first | done | assumption) (by (try rw [c116]); first | done | assumption) (by (try rw [((hS76.cell ta0 (by decide +kernel)).trans c26)]); first | done | with_reducible assumption | omega) (fun q0 z0 => by obtain rfl := Option.some.inj ((d2).symm.trans z0); (try rw [c77]); first | done | with_reducible assumption | omega) (fun q0 z0 => by obtain rfl := Option.some.inj ((d2).symm.trans z0); (try rw [((hS76.cell ta1 (by decide +kernel)).trans c46)]); first | done | with_reducible assumption | omega) ⟨_, d2⟩) ?_
    rintro y136 cn' K' N' I131 R132 L133 ⟨rfl, rfl, rfl, rfl, g134, dj137, -⟩
    have hM138 : NmM I131 R0 L70 a1 gQ := NmM.kpS hM100 g134 hS76.1 ta1 (by decide +kernel) (by decide +kernel)
    have hS139 := hS76.tr g134 (by decide +kernel) (by decide +kernel)
    have c140 : I131 a1 3 = v41 := (g134.cell ta1 (by decide +kernel)).trans c77
    have hO141 : FrO 14 a1 T I0 I131 := hO78.st g134 (by decide +kernel)
    rcases dj137 with ⟨p142, p143, p144, p145, p146, p147, p148, p149, p150, p151, p152, p153, p154, gl155, -⟩ | ⟨p156, p157, p158, p159, -⟩ | ⟨p160, p161, p162, p163, p164, -⟩
    · skip
      have hL165 := hL99.tr gl155 (by decide +kernel)
      have hM166 : NmM I131 R0 L133 a1 gQ := NmM.kpL hM138 gl155 hS139.1 ta1 (by decide +kernel)
      obtain ⟨v167, c168⟩ : ∃ v, I131 a0 13 = v := ⟨_, rfl⟩
      rw [c168] at p147
      rw [c102] at p147
      obtain ⟨v169, c170⟩ : ∃ v, I131 a0 9 = v := ⟨_, rfl⟩
      have b171 := iv15_9 hS139.1 ta0 c170
      rw [c170] at p148
      rw [c170] at p149
      obtain ⟨v172, c173⟩ : ∃ v, I131 a0 10 = v := ⟨_, rfl⟩
      have b174 := iv15_10 hS139.1 ta0 c173
      rw [c173] at p150
      obtain ⟨v175, c176⟩ : ∃ v, I131 a0 11 = v := ⟨_, rfl⟩
      rw [c176] at p151
      obtain ⟨y177, c178⟩ : ∃ v, L133 a0 15 = v := ⟨_, rfl⟩
      rw [c178] at p152
      obtain ⟨v179, c180⟩ : ∃ v, I131 a0 12 = v := ⟨_, rfl⟩
      rw [c180] at p153
      obtain ⟨v181, c182⟩ : ∃ v, I131 a0 8 = v := ⟨_, rfl⟩
      have b183 := iv15_8 hS139.1 ta0 c182
      rw [c182] at p154
      replace hF := hF.neg (by exact om_e4d065d5 p143)
      replace hP := hP.neg (by exact om_e4d065d5 p143)
      replace hF := hF.neg (by exact om_e6f60cd2 p145 p146)
      replace hP := hP.neg (by exact om_e6f60cd2 p145 p146)
      refine tr_lstore_n dX12_readCheese_17 (by decide) (by decide) (by decide) ?_
      refine tr_aload_n dX12_readCheese_18 rfl ?_
      refine tr_ldcwS dX12_readCheese_19 ld12_289 ?_
      refine q_iconst dX12_readCheese_22 (by decide) ?_
      intro v184 h185
      refine tr_aload_n dX12_readCheese_23 rfl ?_
      refine tr_getR dX12_readCheese_24 fl12_188 (kR15 hS139.1 ta0) d2 ?_
      refine q_getI dX12_readCheese_27 fl12_263 (kR14 hS139.1 ta1) ((hS139.cell ta1 (by decide +kernel)).trans c34) ?_
      refine q_iconst dX12_readCheese_30 (by decide) ?_
      intro v186 h187
      refine q_isubE dX12_readCheese_31 (by intro j1 j2 j3 j4; exact om_99c1ed93 b35.2 b35.1 p36 w123 h187) ?_
      intro v188 h189
      refine q_callVi hE (M' := mX12_readPart) (as := [_, _, _]) dX12_readCheese_32 lk12_249 inX12_readPart seX12_readPart myX12_readPart (by decide) ⟨by decide, by decide⟩ rfl (kR15 hS139.1 ta0) (Nat.le_of_ble_eq_true rfl) rfl rfl (by decide) (by decide) (fk_X12_readPart hS139.1 (gB) ((tkN gB (tkN gB gs))) ta0 (by decide) (TxA.kp hT hS139 ta0 rfl rfl rfl (by decide +kernel) (by decide +kernel)) (by (try rw [c170]); first | done | with_reducible assumption | omega) (by (try rw [c170]); first | done | with_reducible assumption | omega) (by (try rw [c173]); first | done | with_reducible assumption | omega) (by (try rw [c176]); first | done | with_reducible assumption | omega) (by (try rw [c178]); first | done | assumption) (by (try rw [c180]); first | done | assumption) (by (try rw [c182]); first | done | assumption) (by (try rw [((hS139.cell ta0 (by decide +kernel)).trans c26)]); first | done | with_reducible assumption | omega)) ?_
      rintro v195 cn' K' N' I190 R191 L192 ⟨rfl, rfl, rfl, rfl, g193, dj196, -⟩
      (try rw [pk_15] at dj196)
      have hM197 : NmM I190 R0 L133 a1 gQ := NmM.kpS hM166 g193 hS139.1 ta1 (by decide +kernel) (by decide +kernel)
      have hS198 := hS139.tr g193 (by decide +kernel) (by decide +kernel)
      have c199 : I190 a1 3 = v41 := (g193.cell ta1 (by decide +kernel)).trans c140
      have hO200 : FrO 14 a1 T I0 I190 := hO141.st g193 (by decide +kernel)
      rcases dj196 with ⟨p201, p202, p203, p204, p205, p206, p207, p208, p209, p210, p211, p212, p213, p214, gl215, -⟩ | ⟨p216, p217, p218, p219, p220, -⟩ | ⟨p221, p222, p223, p224, p225, p226, p227, -⟩ | ⟨p228, p229, p230, p231, p232, p233, p234, p235, -⟩
      · skip
        have hL236 := hL165.tr gl215 (by decide +kernel)
        have hM237 : NmM I190 R0 L192 a1 gQ := NmM.kpL hM197 gl215 hS198.1 ta1 (by decide +kernel)
        obtain ⟨v238, c239⟩ : ∃ v, I190 a0 13 = v := ⟨_, rfl⟩
        rw [c239] at p207
        rw [c168] at p207
        obtain ⟨v240, c241⟩ : ∃ v, I190 a0 9 = v := ⟨_, rfl⟩
        have b242 := iv15_9 hS198.1 ta0 c241
        rw [c241] at p208
        rw [c241] at p209
        obtain ⟨v243, c244⟩ : ∃ v, I190 a0 10 = v := ⟨_, rfl⟩
        have b245 := iv15_10 hS198.1 ta0 c244
        rw [c244] at p210
        obtain ⟨v246, c247⟩ : ∃ v, I190 a0 11 = v := ⟨_, rfl⟩
        rw [c247] at p211
        obtain ⟨y248, c249⟩ : ∃ v, L192 a0 15 = v := ⟨_, rfl⟩
        rw [c249] at p212
        obtain ⟨v250, c251⟩ : ∃ v, I190 a0 12 = v := ⟨_, rfl⟩
        rw [c251] at p213
        obtain ⟨v252, c253⟩ : ∃ v, I190 a0 8 = v := ⟨_, rfl⟩
        have b254 := iv15_8 hS198.1 ta0 c253
        rw [c253] at p214
        replace hF := hF.neg (by exact om_28513e2f p202 p203)
        replace hP := hP.neg (by exact om_28513e2f p202 p203)
        replace hF := hF.neg (by exact om_10ed11b5 p204)
        replace hP := hP.neg (by exact om_10ed11b5 p204)
        replace hF := hF.neg (by exact om_4062d996 p36 w123 h185 h187 h189 p205 p206)
        replace hP := hP.neg (by exact om_4062d996 p36 w123 h185 h187 h189 p205 p206)
        refine tr_istore_n dX12_readCheese_35 (by decide) (by decide) ?_
        refine tr_aload_n dX12_readCheese_36 rfl ?_
        refine tr_ldcS dX12_readCheese_37 ld12_186 ?_
        refine q_callVi hE (M' := mX12_eatsWord) (as := [_]) dX12_readCheese_39 lk12_290 inX12_eatsWord seX12_eatsWord myX12_eatsWord (by decide) ⟨by decide, by decide⟩ rfl (kR15 hS198.1 ta0) (Nat.le_of_ble_eq_true rfl) rfl rfl (by decide) (by decide) (fk_X12_eatsWord hS198.1 (gB) ((tkN gB (tkN gB (tkN gB (tkN gB gs))))) ta0 (by decide) (TxA.kp hT hS198 ta0 rfl rfl rfl (by decide +kernel) (by decide +kernel)) (by (try rw [c241]); first | done | with_reducible assumption | omega) (by (try rw [c241]); first | done | with_reducible assumption | omega) (by (try rw [c244]); first | done | with_reducible assumption | omega) (by (try rw [c247]); first | done | with_reducible assumption | omega) (by (try rw [c249]); first | done | assumption) (by (try rw [c251]); first | done | assumption) (by (try rw [c253]); first | done | assumption) (by (try rw [((hS198.cell ta0 (by decide +kernel)).trans c26)]); first | done | with_reducible assumption | omega)) ?_
        rintro v260 cn' K' N' I255 R256 L257 ⟨rfl, rfl, rfl, rfl, g258, gl259, h261, dj262, -⟩
        (try rw [pk_10] at dj262)
        have hM263 : NmM I255 R0 L192 a1 gQ := NmM.kpS hM237 g258 hS198.1 ta1 (by decide +kernel) (by decide +kernel)
        have hS264 := hS198.tr g258 (by decide +kernel) (by decide +kernel)
        have c265 : I255 a1 3 = v41 := (g258.cell ta1 (by decide +kernel)).trans c199
        have c266 : I255 a0 13 = v238 := (g258.cell ta0 (by decide +kernel)).trans c239
        have hO267 : FrO 14 a1 T I0 I255 := hO200.st g258 (by decide +kernel)
        have hL268 := hL236.tr gl259 (by decide +kernel)
        have hM269 : NmM I255 R0 L257 a1 gQ := NmM.kpL hM263 gl259 hS264.1 ta1 (by decide +kernel)
        rcases dj262 with ⟨p270, p271, p272, p273, p274, p275, p276, p277, p278, p279, p280, -⟩ | ⟨p281, p282, p283, p284, p285, p286, p287, p288, p289, p290, -⟩
        · skip
          rw [c266] at p273
          rw [c239] at p273
          obtain ⟨v291, c292⟩ : ∃ v, I255 a0 9 = v := ⟨_, rfl⟩
          have b293 := iv15_9 hS264.1 ta0 c292
          rw [c292] at p274
          rw [c292] at p275
          obtain ⟨v294, c295⟩ : ∃ v, I255 a0 10 = v := ⟨_, rfl⟩
          have b296 := iv15_10 hS264.1 ta0 c295
          rw [c295] at p276
          obtain ⟨v297, c298⟩ : ∃ v, I255 a0 11 = v := ⟨_, rfl⟩
          rw [c298] at p277
          obtain ⟨y299, c300⟩ : ∃ v, L257 a0 15 = v := ⟨_, rfl⟩
          rw [c300] at p278
          obtain ⟨v301, c302⟩ : ∃ v, I255 a0 12 = v := ⟨_, rfl⟩
          rw [c302] at p279
          obtain ⟨v303, c304⟩ : ∃ v, I255 a0 8 = v := ⟨_, rfl⟩
          have b305 := iv15_8 hS264.1 ta0 c304
          rw [c304] at p280
          refine tr_istore dX12_readCheese_42 (by decide) (by decide) ?_
          refine tr_aload_n dX12_readCheese_44 rfl ?_
          refine q_getI dX12_readCheese_45 fl12_99 (kR15 hS264.1 ta0) c292 ?_
          refine q_iconst dX12_readCheese_48 (by decide) ?_
          intro v306 h307
          refine q_icmp_ne 53 dX12_readCheese_49 (by decide) (fun h308 => ?_) (fun h308 => ?_)
          · skip
            refine tr_aload_n dX12_readCheese_53 rfl ?_
            refine tr_lload_n dX12_readCheese_54 rfl ?_
            refine q_iconst dX12_readCheese_55 (by decide) ?_
            intro v309 h310
            refine tr_aload_n dX12_readCheese_56 rfl ?_
            refine tr_getR dX12_readCheese_57 fl12_188 (kR15 hS264.1 ta0) d2 ?_
            refine q_getI dX12_readCheese_60 fl12_224 (kR14 hS264.1 ta1) c265 ?_
            obtain ⟨v312, c313⟩ : ∃ v, I255 a1 7 = v := ⟨_, rfl⟩
            have b314 := iv14_7 hS264.1 ta1 c313
            have p311 := hS264.1.2.2.2.2.1 a0 ta0 _ d2
            rw [c313, c265, ((hS264.cell ta1 (by decide +kernel)).trans c46)] at p311
            refine q_callVv hE (M' := mX12_names) (as := [_, _, _]) dX12_readCheese_63 lk12_293 inX12_names seX12_names myX12_names (by decide) ⟨by decide, by decide⟩ rfl (kR15 hS264.1 ta0) (Nat.le_of_ble_eq_true rfl) rfl rfl (by decide) (by decide) (fk_X12_names hS264.1  ta0 (fun q0 z0 => by obtain rfl := Option.some.inj ((d2).symm.trans z0); (try rw [c313]); first | done | with_reducible assumption | exact om_23ab862a b31.2 b31.1 p32 b43.2 b43.1 p44 b47.2 b47.1 p48 h67 p79 p80 w122 w125 w126 p275 p274 b293.1 h307 h308 b314.2 b314.1 p311) ⟨_, d2⟩) ?_
            rintro cn' K' N' I315 R316 L317 ⟨rfl, rfl, rfl, rfl, g318, gl319, rp321, rp322, -⟩
            have hS323 := hS264.tr g318 (by decide +kernel) (by decide +kernel)
            have c324 : I315 a1 3 = v41 := (g318.cell ta1 (by decide +kernel)).trans c265
            have c325 : I315 a0 13 = v238 := (g318.cell ta0 (by decide +kernel)).trans c266
            have c326 : I315 a0 9 = v291 := (g318.cell ta0 (by decide +kernel)).trans c292
            have c327 : I315 a0 10 = v294 := (g318.cell ta0 (by decide +kernel)).trans c295
            have c328 : I315 a0 11 = v297 := (g318.cell ta0 (by decide +kernel)).trans c298
            have c329 : I315 a0 12 = v301 := (g318.cell ta0 (by decide +kernel)).trans c302
            have c330 : I315 a0 8 = v303 := (g318.cell ta0 (by decide +kernel)).trans c304
            have hO331 : FrO 14 a1 T I0 I315 := hO267.tr (rp322 _ d2)
            have hL332 := hL268.tr gl319 (by decide +kernel)
            have c333 : L317 a0 15 = y299 := (gl319.cell ta0 (by decide +kernel)).trans c300
            have hM334 := NmM.up5 (B := gB) (s := (tkN gB gs)) hM269 (rp321 _ d2) (by exact om_acd7a85a p142) (by exact om_29f55913 h310) (by rw [c313]; exact om_0e6fd8ee p44 p48 w125 w126 p311) (by exact om_a08708c7 b31.2 b31.1 p32 b43.2 b43.1 p44 p48 h67 p79 p80 w122 w125 w126 p275 p274 b293.1 h307 h308 p311) (by exact om_dd98535d p146)
            refine tr_aload_n dX12_readCheese_66 rfl ?_
            refine tr_getR dX12_readCheese_67 fl12_188 (kR15 hS323.1 ta0) d2 ?_
            obtain ⟨a335, d336, ta335⟩ := rf14_15 hW0 ta1
            refine tr_getR dX12_readCheese_70 fl12_296 (kR14 hS323.1 ta1) d336 ?_
            refine tr_aload_n dX12_readCheese_73 rfl ?_
            refine tr_getR dX12_readCheese_74 fl12_188 (kR15 hS323.1 ta0) d2 ?_
            refine q_getI dX12_readCheese_77 fl12_224 (kR14 hS323.1 ta1) c324 ?_
            refine tr_iload_n dX12_readCheese_80 rfl ?_
            refine q_iast dX12_readCheese_81 (kR58 hS323.1 ta335) (ti_in (nR58 hS323.1 ta335) (by exact om_99700672 b43.2 b43.1 p44 p48 w125 w126 p311) (by exact om_89edba19 b31.2 b31.1 p32 b43.2 b43.1 p44 p48 h67 p79 p80 w122 w125 w126 p275 p274 b293.1 h307 h308 p311)) hS323 ta335 (by show (0 : Int) ≤ v195.toInt ∧ v195.toInt ≤ (3 : Int); exact om_fe604db5 b35.2 b35.1 p36 w123 h185 h187 h189 p201 p205 p206) rfl (by rfl) ?_
            intro I337 hS338 e340 f339
            have c341 : I337 a1 3 = v41 := (f339 _ _ (fun q => by have z := ta1; rw [q.1, ta335] at z; exact absurd z (by decide))).trans c324
            have c342 : I337 a0 13 = v238 := (f339 _ _ (fun q => by have z := ta0; rw [q.1, ta335] at z; exact absurd z (by decide))).trans c325
            have c343 : I337 a0 9 = v291 := (f339 _ _ (fun q => by have z := ta0; rw [q.1, ta335] at z; exact absurd z (by decide))).trans c326
            have c344 : I337 a0 10 = v294 := (f339 _ _ (fun q => by have z := ta0; rw [q.1, ta335] at z; exact absurd z (by decide))).trans c327
            have c345 : I337 a0 11 = v297 := (f339 _ _ (fun q => by have z := ta0; rw [q.1, ta335] at z; exact absurd z (by decide))).trans c328
            have c346 : I337 a0 12 = v301 := (f339 _ _ (fun q => by have z := ta0; rw [q.1, ta335] at z; exact absurd z (by decide))).trans c329
            have c347 : I337 a0 8 = v303 := (f339 _ _ (fun q => by have z := ta0; rw [q.1, ta335] at z; exact absurd z (by decide))).trans c330
            have hO348 : FrO 14 a1 T I0 I337 := hO331.put f339 ta335 (Or.inl (by decide))
            have hM349 : NmM I337 R0 L317 a1 (bdQ gB gQ 5 (tkN gB gs)) := NmM.kp1 hM334 f339 ta335 rfl rfl hS323.1 ta1
            refine tr_aload_n dX12_readCheese_82 rfl ?_
            refine tr_getR dX12_readCheese_83 fl12_188 (kR15 hS338.1 ta0) d2 ?_
            obtain ⟨a350, d351, ta350⟩ := rf14_19 hW0 ta1
            refine tr_getR dX12_readCheese_86 fl12_299 (kR14 hS338.1 ta1) d351 ?_
            refine tr_aload_n dX12_readCheese_89 rfl ?_
            refine tr_getR dX12_readCheese_90 fl12_188 (kR15 hS338.1 ta0) d2 ?_
            refine q_getI dX12_readCheese_93 fl12_224 (kR14 hS338.1 ta1) c341 ?_
            refine tr_iload dX12_readCheese_96 rfl ?_
            refine q_zast dX12_readCheese_98 (kR62 hS338.1 ta350) (ti_in (nR62 hS338.1 ta350) (by exact om_99700672 b43.2 b43.1 p44 p48 w125 w126 p311) (by exact om_89edba19 b31.2 b31.1 p32 b43.2 b43.1 p44 p48 h67 p79 p80 w122 w125 w126 p275 p274 b293.1 h307 h308 p311)) hS338 ta350 (by exact om_be53a44c h261) rfl rfl (by rfl) ?_
            intro I352 hS353 f354
            have c356 : I352 a1 3 = v41 := (f354 _ _ (fun q => by have z := ta1; rw [q.1, ta350] at z; exact absurd z (by decide))).trans c341
            have c357 : I352 a0 13 = v238 := (f354 _ _ (fun q => by have z := ta0; rw [q.1, ta350] at z; exact absurd z (by decide))).trans c342
            have c358 : I352 a0 9 = v291 := (f354 _ _ (fun q => by have z := ta0; rw [q.1, ta350] at z; exact absurd z (by decide))).trans c343
            have c359 : I352 a0 10 = v294 := (f354 _ _ (fun q => by have z := ta0; rw [q.1, ta350] at z; exact absurd z (by decide))).trans c344
            have c360 : I352 a0 11 = v297 := (f354 _ _ (fun q => by have z := ta0; rw [q.1, ta350] at z; exact absurd z (by decide))).trans c345
            have c361 : I352 a0 12 = v301 := (f354 _ _ (fun q => by have z := ta0; rw [q.1, ta350] at z; exact absurd z (by decide))).trans c346
            have c362 : I352 a0 8 = v303 := (f354 _ _ (fun q => by have z := ta0; rw [q.1, ta350] at z; exact absurd z (by decide))).trans c347
            have hO363 : FrO 14 a1 T I0 I352 := hO348.put f354 ta350 (Or.inl (by decide))
            have hM364 : NmM I352 R0 L317 a1 (bdQ gB gQ 5 (tkN gB gs)) := NmM.kp1 hM349 f354 ta350 rfl rfl hS338.1 ta1
            refine tr_aload_n dX12_readCheese_99 rfl ?_
            refine tr_getR dX12_readCheese_100 fl12_188 (kR15 hS353.1 ta0) d2 ?_
            refine tr_dup dX12_readCheese_103 rfl ?_
            refine q_getI dX12_readCheese_104 fl12_224 (kR14 hS353.1 ta1) c356 ?_
            refine q_iconst dX12_readCheese_107 (by decide) ?_
            intro v365 h366
            refine q_iaddE dX12_readCheese_108 (by intro j1 j2 j3 j4; exact om_14ae938a b43.2 b43.1 p44 p48 w125 w126 p311 h366) ?_
            intro v367 h368
            refine q_putX dX12_readCheese_109 fl12_224 (kR14 hS353.1 ta1) (Or.inl rfl) hS353 ta1 (by decide +kernel) (hS353.1.putN (d' := 0) ta0 d2 (Or.inr (Or.inl rfl)) (by rw [c356]; exact om_aea7ac45 p44 p48 w125 w126 p311 h366 h368) (by decide) (by show (0 : Int) ≤ v367.toInt ∧ v367.toInt ≤ (8 : Int); exact om_6ef21116 b31.2 b31.1 p32 b43.2 b43.1 p44 p48 h67 p79 p80 w122 w125 w126 p275 p274 b293.1 h307 h308 p311 h366 h368)) ?_
            intro I369 hS370 e371 f372
            have c373 : I369 a0 13 = v238 := (f372 _ _ (fun q => absurd q.2 (by decide))).trans c357
            have c374 : I369 a0 9 = v291 := (f372 _ _ (fun q => absurd q.2 (by decide))).trans c358
            have c375 : I369 a0 10 = v294 := (f372 _ _ (fun q => absurd q.2 (by decide))).trans c359
            have c376 : I369 a0 11 = v297 := (f372 _ _ (fun q => absurd q.2 (by decide))).trans c360
            have c377 : I369 a0 12 = v301 := (f372 _ _ (fun q => absurd q.2 (by decide))).trans c361
            have c378 : I369 a0 8 = v303 := (f372 _ _ (fun q => absurd q.2 (by decide))).trans c362
            have hO379 : FrO 14 a1 T I0 I369 := hO363.put f372 ta1 (Or.inr rfl)
            have hM380 : NmM I369 R0 L317 a1 (bdQ gB gQ 5 (tkN gB gs)) := NmM.kp1 hM364 f372 ta1 rfl rfl hS353.1 ta1
            have eF := hF.eq
            have eP := hP.eq
            have es381 : chS gB gQ (tkN gB gs) = (tkN gB (tkN gB (tkN gB (tkN gB (tkN gB gs))))) := by exact om_67758a6f p271 p272
            obtain ⟨v382, c383⟩ : ∃ v, I369 a0 14 = v := ⟨_, rfl⟩
            exact tr_vret hZ dX12_readCheese_112 rfl (by decide) (by decide) ⟨rfl, rfl, rfl, rfl, rfl, hS370, (fun dr hd => (Option.some.inj (d2.symm.trans hd)) ▸ hO379), (Or.inl ⟨(by (try rw [w121]); (try rw [es381]); first | done | with_reducible assumption | omega), (fun q0 z0 => by obtain rfl := Option.some.inj ((d2).symm.trans z0); (try rw [w121]); (try rw [es381]); (try rw [((hS370.cell ta1 (by decide +kernel)).trans c30)]); first | done | with_reducible assumption | exact om_2757374c p32 w122), (fun q0 z0 => by obtain rfl := Option.some.inj ((d2).symm.trans z0); (try rw [w121]); (try rw [es381]); (try rw [((hS370.cell ta1 (by decide +kernel)).trans c34)]); first | done | with_reducible assumption | exact om_2757374c p36 w123), (fun q0 z0 => by obtain rfl := Option.some.inj ((d2).symm.trans z0); (try rw [w121]); (try rw [es381]); (try rw [((hS370.cell ta1 (by decide +kernel)).trans c38)]); first | done | with_reducible assumption | exact om_2757374c p40 w124), (fun q0 z0 => by obtain rfl := Option.some.inj ((d2).symm.trans z0); (try rw [w121]); (try rw [es381]); (try rw [e371]); first | done | with_reducible assumption | exact om_4c7af473 p44 p48 w125 w126 p311 h366 h368), (fun q0 z0 => by obtain rfl := Option.some.inj ((d2).symm.trans z0); (try rw [w121]); (try rw [es381]); (try rw [((hS370.cell ta1 (by decide +kernel)).trans c46)]); first | done | with_reducible assumption | exact om_2757374c p48 w126), (fun q0 z0 => by obtain rfl := Option.some.inj ((d2).symm.trans z0); (try rw [w121]); (try rw [es381]); (try rw [((hS370.cell ta1 (by decide +kernel)).trans c50)]); first | done | with_reducible assumption | exact om_2757374c p52 w127), (fun q0 z0 => by obtain rfl := Option.some.inj ((d2).symm.trans z0); (try rw [w121]); (try rw [es381]); (try rw [((hS370.cell ta1 (by decide +kernel)).trans c54)]); first | done | with_reducible assumption | exact om_2757374c p56 w128), (fun q0 z0 => by obtain rfl := Option.some.inj ((d2).symm.trans z0); (try rw [w121]); (try rw [es381]); (try rw [((hS370.cell ta1 (by decide +kernel)).trans c58)]); first | done | with_reducible assumption | exact om_2757374c p60 w130), (by (try rw [w121]); (try rw [es381]); (try rw [c373]); (try rw [c65]); first | done | with_reducible assumption | exact om_1c22ab7e p81 p147 p207), (by (try rw [w121]); (try rw [es381]); (try rw [c374]); first | done | with_reducible assumption | omega), (by (try rw [w121]); (try rw [es381]); (try rw [c374]); first | done | with_reducible assumption | omega), (by (try rw [w121]); (try rw [es381]); (try rw [c375]); first | done | with_reducible assumption | omega), (by (try rw [w121]); (try rw [es381]); (try rw [c376]); first | done | with_reducible assumption | omega), (by (try rw [w121]); (try rw [es381]); (try rw [c333]); first | done | assumption), (by (try rw [w121]); (try rw [es381]); (try rw [c377]); first | done | assumption), (by (try rw [w121]); (try rw [es381]); (try rw [c378]); first | done | assumption), hL332, (fun b hb => (Option.some.inj (d2.symm.trans hb)) ▸ NmM.ln hM380 (by exact om_394b70a2 p63)), trivial⟩), trivial⟩
          · skip
            exfalso; exact om_99cda0b7 p275 p274 b293.1 h307 h308
        · skip
          rw [c266] at p283
          rw [c239] at p283
          obtain ⟨v384, c385⟩ : ∃ v, I255 a0 9 = v := ⟨_, rfl⟩
          have b386 := iv15_9 hS264.1 ta0 c385
          rw [c385] at p284
          rw [c385] at p285
          obtain ⟨v387, c388⟩ : ∃ v, I255 a0 10 = v := ⟨_, rfl⟩
          have b389 := iv15_10 hS264.1 ta0 c388
          rw [c388] at p286
          obtain ⟨v390, c391⟩ : ∃ v, I255 a0 11 = v := ⟨_, rfl⟩
          rw [c391] at p287
          obtain ⟨y392, c393⟩ : ∃ v, L257 a0 15 = v := ⟨_, rfl⟩
          rw [c393] at p288
          obtain ⟨v394, c395⟩ : ∃ v, I255 a0 12 = v := ⟨_, rfl⟩
          rw [c395] at p289
          obtain ⟨v396, c397⟩ : ∃ v, I255 a0 8 = v := ⟨_, rfl⟩
          have b398 := iv15_8 hS264.1 ta0 c397
          rw [c397] at p290
          refine tr_istore dX12_readCheese_42 (by decide) (by decide) ?_
          refine tr_aload_n dX12_readCheese_44 rfl ?_
          refine q_getI dX12_readCheese_45 fl12_99 (kR15 hS264.1 ta0) c385 ?_
          refine q_iconst dX12_readCheese_48 (by decide) ?_
          intro v399 h400
          refine q_icmp_ne 53 dX12_readCheese_49 (by decide) (fun h401 => ?_) (fun h401 => ?_)
          · skip
            refine tr_aload_n dX12_readCheese_53 rfl ?_
            refine tr_lload_n dX12_readCheese_54 rfl ?_
            refine q_iconst dX12_readCheese_55 (by decide) ?_
            intro v402 h403
            refine tr_aload_n dX12_readCheese_56 rfl ?_
            refine tr_getR dX12_readCheese_57 fl12_188 (kR15 hS264.1 ta0) d2 ?_
            refine q_getI dX12_readCheese_60 fl12_224 (kR14 hS264.1 ta1) c265 ?_
            obtain ⟨v405, c406⟩ : ∃ v, I255 a1 7 = v := ⟨_, rfl⟩
            have b407 := iv14_7 hS264.1 ta1 c406
            have p404 := hS264.1.2.2.2.2.1 a0 ta0 _ d2
            rw [c406, c265, ((hS264.cell ta1 (by decide +kernel)).trans c46)] at p404
            refine q_callVv hE (M' := mX12_names) (as := [_, _, _]) dX12_readCheese_63 lk12_293 inX12_names seX12_names myX12_names (by decide) ⟨by decide, by decide⟩ rfl (kR15 hS264.1 ta0) (Nat.le_of_ble_eq_true rfl) rfl rfl (by decide) (by decide) (fk_X12_names hS264.1  ta0 (fun q0 z0 => by obtain rfl := Option.some.inj ((d2).symm.trans z0); (try rw [c406]); first | done | with_reducible assumption | exact om_561a89a6 b31.2 b31.1 p32 b43.2 b43.1 p44 b47.2 b47.1 p48 h67 p79 p80 w122 w125 w126 p209 p208 b242.1 p284 h400 h401 b407.2 b407.1 p404) ⟨_, d2⟩) ?_
            rintro cn' K' N' I408 R409 L410 ⟨rfl, rfl, rfl, rfl, g411, gl412, rp414, rp415, -⟩
            have hS416 := hS264.tr g411 (by decide +kernel) (by decide +kernel)
            have c417 : I408 a1 3 = v41 := (g411.cell ta1 (by decide +kernel)).trans c265
            have c418 : I408 a0 13 = v238 := (g411.cell ta0 (by decide +kernel)).trans c266
            have c419 : I408 a0 9 = v384 := (g411.cell ta0 (by decide +kernel)).trans c385
            have c420 : I408 a0 10 = v387 := (g411.cell ta0 (by decide +kernel)).trans c388
            have c421 : I408 a0 11 = v390 := (g411.cell ta0 (by decide +kernel)).trans c391
            have c422 : I408 a0 12 = v394 := (g411.cell ta0 (by decide +kernel)).trans c395
            have c423 : I408 a0 8 = v396 := (g411.cell ta0 (by decide +kernel)).trans c397
            have hO424 : FrO 14 a1 T I0 I408 := hO267.tr (rp415 _ d2)
            have hL425 := hL268.tr gl412 (by decide +kernel)
            have c426 : L410 a0 15 = y392 := (gl412.cell ta0 (by decide +kernel)).trans c393
            have hM427 := NmM.up5 (B := gB) (s := (tkN gB gs)) hM269 (rp414 _ d2) (by exact om_acd7a85a p142) (by exact om_29f55913 h403) (by rw [c406]; exact om_0e6fd8ee p44 p48 w125 w126 p404) (by exact om_05d0944a b31.2 b31.1 p32 b43.2 b43.1 p44 p48 h67 p79 p80 w122 w125 w126 p209 p208 b242.1 p284 h400 h401 p404) (by exact om_dd98535d p146)
            refine tr_aload_n dX12_readCheese_66 rfl ?_
            refine tr_getR dX12_readCheese_67 fl12_188 (kR15 hS416.1 ta0) d2 ?_
            obtain ⟨a428, d429, ta428⟩ := rf14_15 hW0 ta1
            refine tr_getR dX12_readCheese_70 fl12_296 (kR14 hS416.1 ta1) d429 ?_
            refine tr_aload_n dX12_readCheese_73 rfl ?_
            refine tr_getR dX12_readCheese_74 fl12_188 (kR15 hS416.1 ta0) d2 ?_
            refine q_getI dX12_readCheese_77 fl12_224 (kR14 hS416.1 ta1) c417 ?_
            refine tr_iload_n dX12_readCheese_80 rfl ?_
            refine q_iast dX12_readCheese_81 (kR58 hS416.1 ta428) (ti_in (nR58 hS416.1 ta428) (by exact om_99700672 b43.2 b43.1 p44 p48 w125 w126 p404) (by exact om_1e325ab1 b31.2 b31.1 p32 b43.2 b43.1 p44 p48 h67 p79 p80 w122 w125 w126 p209 p208 b242.1 p284 h400 h401 p404)) hS416 ta428 (by show (0 : Int) ≤ v195.toInt ∧ v195.toInt ≤ (3 : Int); exact om_fe604db5 b35.2 b35.1 p36 w123 h185 h187 h189 p201 p205 p206) rfl (by rfl) ?_
            intro I430 hS431 e433 f432
            have c434 : I430 a1 3 = v41 := (f432 _ _ (fun q => by have z := ta1; rw [q.1, ta428] at z; exact absurd z (by decide))).trans c417
            have c435 : I430 a0 13 = v238 := (f432 _ _ (fun q => by have z := ta0; rw [q.1, ta428] at z; exact absurd z (by decide))).trans c418
            have c436 : I430 a0 9 = v384 := (f432 _ _ (fun q => by have z := ta0; rw [q.1, ta428] at z; exact absurd z (by decide))).trans c419
            have c437 : I430 a0 10 = v387 := (f432 _ _ (fun q => by have z := ta0; rw [q.1, ta428] at z; exact absurd z (by decide))).trans c420
            have c438 : I430 a0 11 = v390 := (f432 _ _ (fun q => by have z := ta0; rw [q.1, ta428] at z; exact absurd z (by decide))).trans c421
            have c439 : I430 a0 12 = v394 := (f432 _ _ (fun q => by have z := ta0; rw [q.1, ta428] at z; exact absurd z (by decide))).trans c422
            have c440 : I430 a0 8 = v396 := (f432 _ _ (fun q => by have z := ta0; rw [q.1, ta428] at z; exact absurd z (by decide))).trans c423
            have hO441 : FrO 14 a1 T I0 I430 := hO424.put f432 ta428 (Or.inl (by decide))
            have hM442 : NmM I430 R0 L410 a1 (bdQ gB gQ 5 (tkN gB gs)) := NmM.kp1 hM427 f432 ta428 rfl rfl hS416.1 ta1
            refine tr_aload_n dX12_readCheese_82 rfl ?_
            refine tr_getR dX12_readCheese_83 fl12_188 (kR15 hS431.1 ta0) d2 ?_
            obtain ⟨a443, d444, ta443⟩ := rf14_19 hW0 ta1
            refine tr_getR dX12_readCheese_86 fl12_299 (kR14 hS431.1 ta1) d444 ?_
            refine tr_aload_n dX12_readCheese_89 rfl ?_
            refine tr_getR dX12_readCheese_90 fl12_188 (kR15 hS431.1 ta0) d2 ?_
            refine q_getI dX12_readCheese_93 fl12_224 (kR14 hS431.1 ta1) c434 ?_
            refine tr_iload dX12_readCheese_96 rfl ?_
            refine q_zast dX12_readCheese_98 (kR62 hS431.1 ta443) (ti_in (nR62 hS431.1 ta443) (by exact om_99700672 b43.2 b43.1 p44 p48 w125 w126 p404) (by exact om_1e325ab1 b31.2 b31.1 p32 b43.2 b43.1 p44 p48 h67 p79 p80 w122 w125 w126 p209 p208 b242.1 p284 h400 h401 p404)) hS431 ta443 (by exact om_be53a44c h261) rfl rfl (by rfl) ?_
            intro I445 hS446 f447
            have c449 : I445 a1 3 = v41 := (f447 _ _ (fun q => by have z := ta1; rw [q.1, ta443] at z; exact absurd z (by decide))).trans c434
            have c450 : I445 a0 13 = v238 := (f447 _ _ (fun q => by have z := ta0; rw [q.1, ta443] at z; exact absurd z (by decide))).trans c435
            have c451 : I445 a0 9 = v384 := (f447 _ _ (fun q => by have z := ta0; rw [q.1, ta443] at z; exact absurd z (by decide))).trans c436
            have c452 : I445 a0 10 = v387 := (f447 _ _ (fun q => by have z := ta0; rw [q.1, ta443] at z; exact absurd z (by decide))).trans c437
            have c453 : I445 a0 11 = v390 := (f447 _ _ (fun q => by have z := ta0; rw [q.1, ta443] at z; exact absurd z (by decide))).trans c438
            have c454 : I445 a0 12 = v394 := (f447 _ _ (fun q => by have z := ta0; rw [q.1, ta443] at z; exact absurd z (by decide))).trans c439
            have c455 : I445 a0 8 = v396 := (f447 _ _ (fun q => by have z := ta0; rw [q.1, ta443] at z; exact absurd z (by decide))).trans c440
            have hO456 : FrO 14 a1 T I0 I445 := hO441.put f447 ta443 (Or.inl (by decide))
            have hM457 : NmM I445 R0 L410 a1 (bdQ gB gQ 5 (tkN gB gs)) := NmM.kp1 hM442 f447 ta443 rfl rfl hS431.1 ta1
            refine tr_aload_n dX12_readCheese_99 rfl ?_
            refine tr_getR dX12_readCheese_100 fl12_188 (kR15 hS446.1 ta0) d2 ?_
            refine tr_dup dX12_readCheese_103 rfl ?_
            refine q_getI dX12_readCheese_104 fl12_224 (kR14 hS446.1 ta1) c449 ?_
            refine q_iconst dX12_readCheese_107 (by decide) ?_
            intro v458 h459
            refine q_iaddE dX12_readCheese_108 (by intro j1 j2 j3 j4; exact om_14ae938a b43.2 b43.1 p44 p48 w125 w126 p404 h459) ?_
            intro v460 h461
            refine q_putX dX12_readCheese_109 fl12_224 (kR14 hS446.1 ta1) (Or.inl rfl) hS446 ta1 (by decide +kernel) (hS446.1.putN (d' := 0) ta0 d2 (Or.inr (Or.inl rfl)) (by rw [c449]; exact om_aea7ac45 p44 p48 w125 w126 p404 h459 h461) (by decide) (by show (0 : Int) ≤ v460.toInt ∧ v460.toInt ≤ (8 : Int); exact om_cbe75ff8 b31.2 b31.1 p32 b43.2 b43.1 p44 p48 h67 p79 p80 w122 w125 w126 p209 p208 b242.1 p284 h400 h401 p404 h459 h461)) ?_
            intro I462 hS463 e464 f465
            have c466 : I462 a0 13 = v238 := (f465 _ _ (fun q => absurd q.2 (by decide))).trans c450
            have c467 : I462 a0 9 = v384 := (f465 _ _ (fun q => absurd q.2 (by decide))).trans c451
            have c468 : I462 a0 10 = v387 := (f465 _ _ (fun q => absurd q.2 (by decide))).trans c452
            have c469 : I462 a0 11 = v390 := (f465 _ _ (fun q => absurd q.2 (by decide))).trans c453
            have c470 : I462 a0 12 = v394 := (f465 _ _ (fun q => absurd q.2 (by decide))).trans c454
            have c471 : I462 a0 8 = v396 := (f465 _ _ (fun q => absurd q.2 (by decide))).trans c455
            have hO472 : FrO 14 a1 T I0 I462 := hO456.put f465 ta1 (Or.inr rfl)
            have hM473 : NmM I462 R0 L410 a1 (bdQ gB gQ 5 (tkN gB gs)) := NmM.kp1 hM457 f465 ta1 rfl rfl hS446.1 ta1
            have eF := hF.eq
            have eP := hP.eq
            have p475 := p282
            unfold NotW at p475
            have es474 : chS gB gQ (tkN gB gs) = (tkN gB (tkN gB (tkN gB (tkN gB gs)))) := by exact om_e6f2822f p475
            obtain ⟨v476, c477⟩ : ∃ v, I462 a0 14 = v := ⟨_, rfl⟩
            exact tr_vret hZ dX12_readCheese_112 rfl (by decide) (by decide) ⟨rfl, rfl, rfl, rfl, rfl, hS463, (fun dr hd => (Option.some.inj (d2.symm.trans hd)) ▸ hO472), (Or.inl ⟨(by (try rw [w121]); (try rw [es474]); first | done | with_reducible assumption | omega), (fun q0 z0 => by obtain rfl := Option.some.inj ((d2).symm.trans z0); (try rw [w121]); (try rw [es474]); (try rw [((hS463.cell ta1 (by decide +kernel)).trans c30)]); first | done | with_reducible assumption | exact om_2757374c p32 w122), (fun q0 z0 => by obtain rfl := Option.some.inj ((d2).symm.trans z0); (try rw [w121]); (try rw [es474]); (try rw [((hS463.cell ta1 (by decide +kernel)).trans c34)]); first | done | with_reducible assumption | exact om_2757374c p36 w123), (fun q0 z0 => by obtain rfl := Option.some.inj ((d2).symm.trans z0); (try rw [w121]); (try rw [es474]); (try rw [((hS463.cell ta1 (by decide +kernel)).trans c38)]); first | done | with_reducible assumption | exact om_2757374c p40 w124), (fun q0 z0 => by obtain rfl := Option.some.inj ((d2).symm.trans z0); (try rw [w121]); (try rw [es474]); (try rw [e464]); first | done | with_reducible assumption | exact om_4c7af473 p44 p48 w125 w126 p404 h459 h461), (fun q0 z0 => by obtain rfl := Option.some.inj ((d2).symm.trans z0); (try rw [w121]); (try rw [es474]); (try rw [((hS463.cell ta1 (by decide +kernel)).trans c46)]); first | done | with_reducible assumption | exact om_2757374c p48 w126), (fun q0 z0 => by obtain rfl := Option.some.inj ((d2).symm.trans z0); (try rw [w121]); (try rw [es474]); (try rw [((hS463.cell ta1 (by decide +kernel)).trans c50)]); first | done | with_reducible assumption | exact om_2757374c p52 w127), (fun q0 z0 => by obtain rfl := Option.some.inj ((d2).symm.trans z0); (try rw [w121]); (try rw [es474]); (try rw [((hS463.cell ta1 (by decide +kernel)).trans c54)]); first | done | with_reducible assumption | exact om_2757374c p56 w128), (fun q0 z0 => by obtain rfl := Option.some.inj ((d2).symm.trans z0); (try rw [w121]); (try rw [es474]); (try rw [((hS463.cell ta1 (by decide +kernel)).trans c58)]); first | done | with_reducible assumption | exact om_2757374c p60 w130), (by (try rw [w121]); (try rw [es474]); (try rw [c466]); (try rw [c65]); first | done | with_reducible assumption | exact om_1c22ab7e p81 p147 p207), (by (try rw [w121]); (try rw [es474]); (try rw [c467]); first | done | with_reducible assumption | omega), (by (try rw [w121]); (try rw [es474]); (try rw [c467]); first | done | with_reducible assumption | omega), (by (try rw [w121]); (try rw [es474]); (try rw [c468]); first | done | with_reducible assumption | omega), (by (try rw [w121]); (try rw [es474]); (try rw [c469]); first | done | with_reducible assumption | omega), (by (try rw [w121]); (try rw [es474]); (try rw [c426]); first | done | assumption), (by (try rw [w121]); (try rw [es474]); (try rw [c470]); first | done | assumption), (by (try rw [w121]); (try rw [es474]); (try rw [c471]); first | done | assumption), hL425, (fun b hb => (Option.some.inj (d2.symm.trans hb)) ▸ NmM.ln hM473 (by exact om_394b70a2 p63)), trivial⟩), trivial⟩
          · skip
            exfalso; exact om_ab4be5f1 p209 p208 b242.1 p284 h400 h401
      · skip
        obtain ⟨v478, c479⟩ : ∃ v, I190 a0 9 = v := ⟨_, rfl⟩
        have b480 := iv15_9 hS198.1 ta0 c479
        rw [c479] at p218
        obtain ⟨v481, c482⟩ : ∃ v, I190 a0 13 = v := ⟨_, rfl⟩
        rw [c482] at p219
        obtain ⟨v483, c484⟩ : ∃ v, I190 a0 14 = v := ⟨_, rfl⟩
        rw [c484] at p220
        replace hF := hF.pos (by exact om_88932fbe p217)
        replace hP := hP.pos (by exact om_88932fbe p217)
        refine tr_istore_n dX12_readCheese_35 (by decide) (by decide) ?_
        refine tr_aload_n dX12_readCheese_36 rfl ?_
        refine tr_ldcS dX12_readCheese_37 ld12_186 ?_
        refine q_callVi hE (M' := mX12_eatsWord) (as := [_]) dX12_readCheese_39 lk12_290 inX12_eatsWord seX12_eatsWord myX12_eatsWord (by decide) ⟨by decide, by decide⟩ rfl (kR15 hS198.1 ta0) (Nat.le_of_ble_eq_true rfl) rfl rfl (by decide) (by decide) (k_X12_eatsWord hS198.1 ta0 (by decide)) ?_
        rintro v489 cn' K' N' I485 R486 L487 ⟨rfl, rfl, rfl, rfl, g488, h490, w491, -⟩
        have hS492 := hS198.tr g488 (by decide +kernel) (by decide +kernel)
        have c493 : I485 a1 3 = v41 := (g488.cell ta1 (by decide +kernel)).trans c199
        have c494 : I485 a0 13 = v481 := (g488.cell ta0 (by decide +kernel)).trans c482
        have c495 : I485 a0 14 = v483 := (g488.cell ta0 (by decide +kernel)).trans c484
        have hO496 : FrO 14 a1 T I0 I485 := hO200.st g488 (by decide +kernel)
        have ov497 := w491.over (by rw [c479]; exact om_394b70a2 p218)
        obtain ⟨v498, c499⟩ : ∃ v, I485 a0 9 = v := ⟨_, rfl⟩
        have b500 := iv15_9 hS492.1 ta0 c499
        obtain ⟨v501, c502⟩ : ∃ v, I485 a0 13 = v := ⟨_, rfl⟩
        obtain ⟨v503, c504⟩ : ∃ v, I485 a0 14 = v := ⟨_, rfl⟩
        (try rw [c499] at ov497)
        (try rw [c502] at ov497)
        (try rw [c504] at ov497)
        (try rw [c479] at ov497)
        (try rw [c482] at ov497)
        (try rw [c484] at ov497)
        refine tr_istore dX12_readCheese_42 (by decide) (by decide) ?_
        refine tr_aload_n dX12_readCheese_44 rfl ?_
        refine q_getI dX12_readCheese_45 fl12_99 (kR15 hS492.1 ta0) c499 ?_
        refine q_iconst dX12_readCheese_48 (by decide) ?_
        intro v505 h506
        refine q_icmp_ne 53 dX12_readCheese_49 (by decide) (fun h507 => ?_) (fun h507 => ?_)
        · skip
          exfalso; exact om_1fa3e129 ov497.1 h506 h507
        · skip
          have eF := hF.eq
          have eP := hP.eq
          obtain ⟨v508, c509⟩ : ∃ v, I485 a0 10 = v := ⟨_, rfl⟩
          have b510 := iv15_10 hS492.1 ta0 c509
          obtain ⟨v511, c512⟩ : ∃ v, I485 a0 11 = v := ⟨_, rfl⟩
          obtain ⟨y513, c514⟩ : ∃ v, L487 a0 15 = v := ⟨_, rfl⟩
          obtain ⟨v515, c516⟩ : ∃ v, I485 a0 12 = v := ⟨_, rfl⟩
          obtain ⟨v517, c518⟩ : ∃ v, I485 a0 8 = v := ⟨_, rfl⟩
          have b519 := iv15_8 hS492.1 ta0 c518
          exact tr_vret hZ dX12_readCheese_52 rfl (by decide) (by decide) ⟨rfl, rfl, rfl, rfl, rfl, hS492, (fun dr hd => (Option.some.inj (d2.symm.trans hd)) ▸ hO496), (Or.inr (⟨(by (try rw [w121]); first | done | with_reducible assumption | exact om_7fac24c5 eF), (by (try rw [w121]); (try rw [c499]); first | done | with_reducible assumption | exact om_394b70a2 ov497.1), (by (try rw [w121]); (try rw [c502]); first | done | with_reducible assumption | exact om_9adad658 p219 ov497.2.1 eF), (by (try rw [w121]); (try rw [c504]); first | done | with_reducible assumption | exact om_3998a42e p220 ov497.2.2 eP), trivial⟩)), trivial⟩
      · skip
        obtain ⟨v520, c521⟩ : ∃ v, I190 a0 9 = v := ⟨_, rfl⟩
        have b522 := iv15_9 hS198.1 ta0 c521
        rw [c521] at p225
        obtain ⟨v523, c524⟩ : ∃ v, I190 a0 13 = v := ⟨_, rfl⟩
        rw [c524] at p226
        obtain ⟨v525, c526⟩ : ∃ v, I190 a0 14 = v := ⟨_, rfl⟩
        rw [c526] at p227
        replace hF := hF.neg (by exact om_28513e2f p222 p223)
        replace hP := hP.neg (by exact om_28513e2f p222 p223)
        replace hF := hF.pos (by exact om_73cc8e29 p224)
        replace hP := hP.pos (by exact om_73cc8e29 p224)
        refine tr_istore_n dX12_readCheese_35 (by decide) (by decide) ?_
        refine tr_aload_n dX12_readCheese_36 rfl ?_
        refine tr_ldcS dX12_readCheese_37 ld12_186 ?_
        refine q_callVi hE (M' := mX12_eatsWord) (as := [_]) dX12_readCheese_39 lk12_290 inX12_eatsWord seX12_eatsWord myX12_eatsWord (by decide) ⟨by decide, by decide⟩ rfl (kR15 hS198.1 ta0) (Nat.le_of_ble_eq_true rfl) rfl rfl (by decide) (by decide) (k_X12_eatsWord hS198.1 ta0 (by decide)) ?_
        rintro v531 cn' K' N' I527 R528 L529 ⟨rfl, rfl, rfl, rfl, g530, h532, w533, -⟩
        have hS534 := hS198.tr g530 (by decide +kernel) (by decide +kernel)
        have c535 : I527 a1 3 = v41 := (g530.cell ta1 (by decide +kernel)).trans c199
        have c536 : I527 a0 13 = v523 := (g530.cell ta0 (by decide +kernel)).trans c524
        have c537 : I527 a0 14 = v525 := (g530.cell ta0 (by decide +kernel)).trans c526
        have hO538 : FrO 14 a1 T I0 I527 := hO200.st g530 (by decide +kernel)
        have ov539 := w533.over (by rw [c521]; exact om_394b70a2 p225)
        obtain ⟨v540, c541⟩ : ∃ v, I527 a0 9 = v := ⟨_, rfl⟩
        have b542 := iv15_9 hS534.1 ta0 c541
        obtain ⟨v543, c544⟩ : ∃ v, I527 a0 13 = v := ⟨_, rfl⟩
        obtain ⟨v545, c546⟩ : ∃ v, I527 a0 14 = v := ⟨_, rfl⟩
        (try rw [c541] at ov539)
        (try rw [c544] at ov539)
        (try rw [c546] at ov539)
        (try rw [c521] at ov539)
        (try rw [c524] at ov539)
        (try rw [c526] at ov539)
        refine tr_istore dX12_readCheese_42 (by decide) (by decide) ?_
        refine tr_aload_n dX12_readCheese_44 rfl ?_
        refine q_getI dX12_readCheese_45 fl12_99 (kR15 hS534.1 ta0) c541 ?_
        refine q_iconst dX12_readCheese_48 (by decide) ?_
        intro v547 h548
        refine q_icmp_ne 53 dX12_readCheese_49 (by decide) (fun h549 => ?_) (fun h549 => ?_)
        · skip
          exfalso; exact om_1fa3e129 ov539.1 h548 h549
        · skip
          have eF := hF.eq
          have eP := hP.eq
          obtain ⟨v550, c551⟩ : ∃ v, I527 a0 10 = v := ⟨_, rfl⟩
          have b552 := iv15_10 hS534.1 ta0 c551
          obtain ⟨v553, c554⟩ : ∃ v, I527 a0 11 = v := ⟨_, rfl⟩
          obtain ⟨y555, c556⟩ : ∃ v, L529 a0 15 = v := ⟨_, rfl⟩
          obtain ⟨v557, c558⟩ : ∃ v, I527 a0 12 = v := ⟨_, rfl⟩
          obtain ⟨v559, c560⟩ : ∃ v, I527 a0 8 = v := ⟨_, rfl⟩
          have b561 := iv15_8 hS534.1 ta0 c560
          exact tr_vret hZ dX12_readCheese_52 rfl (by decide) (by decide) ⟨rfl, rfl, rfl, rfl, rfl, hS534, (fun dr hd => (Option.some.inj (d2.symm.trans hd)) ▸ hO538), (Or.inr (⟨(by (try rw [w121]); first | done | with_reducible assumption | exact om_7fac24c5 eF), (by (try rw [w121]); (try rw [c541]); first | done | with_reducible assumption | exact om_394b70a2 ov539.1), (by (try rw [w121]); (try rw [c544]); first | done | with_reducible assumption | exact om_9adad658 p226 ov539.2.1 eF), (by (try rw [w121]); (try rw [c546]); first | done | with_reducible assumption | exact om_3998a42e p227 ov539.2.2 eP), trivial⟩)), trivial⟩
      · skip
        obtain ⟨v562, c563⟩ : ∃ v, I190 a0 9 = v := ⟨_, rfl⟩
        have b564 := iv15_9 hS198.1 ta0 c563
        rw [c563] at p233
        obtain ⟨v565, c566⟩ : ∃ v, I190 a0 13 = v := ⟨_, rfl⟩
        rw [c566] at p234
        obtain ⟨v567, c568⟩ : ∃ v, I190 a0 14 = v := ⟨_, rfl⟩
        rw [c568] at p235
        replace hF := hF.neg (by exact om_28513e2f p229 p230)
        replace hP := hP.neg (by exact om_28513e2f p229 p230)
        replace hF := hF.neg (by exact om_10ed11b5 p231)
        replace hP := hP.neg (by exact om_10ed11b5 p231)
        replace hF := hF.pos (by exact om_41eb13e5 p36 w123 h185 h187 h189 p232)
        replace hP := hP.pos (by exact om_41eb13e5 p36 w123 h185 h187 h189 p232)
        refine tr_istore_n dX12_readCheese_35 (by decide) (by decide) ?_
        refine tr_aload_n dX12_readCheese_36 rfl ?_
        refine tr_ldcS dX12_readCheese_37 ld12_186 ?_
        refine q_callVi hE (M' := mX12_eatsWord) (as := [_]) dX12_readCheese_39 lk12_290 inX12_eatsWord seX12_eatsWord myX12_eatsWord (by decide) ⟨by decide, by decide⟩ rfl (kR15 hS198.1 ta0) (Nat.le_of_ble_eq_true rfl) rfl rfl (by decide) (by decide) (k_X12_eatsWord hS198.1 ta0 (by decide)) ?_
        rintro v573 cn' K' N' I569 R570 L571 ⟨rfl, rfl, rfl, rfl, g572, h574, w575, -⟩
        have hS576 := hS198.tr g572 (by decide +kernel) (by decide +kernel)
        have c577 : I569 a1 3 = v41 := (g572.cell ta1 (by decide +kernel)).trans c199
        have c578 : I569 a0 13 = v565 := (g572.cell ta0 (by decide +kernel)).trans c566
        have c579 : I569 a0 14 = v567 := (g572.cell ta0 (by decide +kernel)).trans c568
        have hO580 : FrO 14 a1 T I0 I569 := hO200.st g572 (by decide +kernel)
        have ov581 := w575.over (by rw [c563]; exact om_394b70a2 p233)
        obtain ⟨v582, c583⟩ : ∃ v, I569 a0 9 = v := ⟨_, rfl⟩
        have b584 := iv15_9 hS576.1 ta0 c583
        obtain ⟨v585, c586⟩ : ∃ v, I569 a0 13 = v := ⟨_, rfl⟩
        obtain ⟨v587, c588⟩ : ∃ v, I569 a0 14 = v := ⟨_, rfl⟩
        (try rw [c583] at ov581)
        (try rw [c586] at ov581)
        (try rw [c588] at ov581)
        (try rw [c563] at ov581)
        (try rw [c566] at ov581)
        (try rw [c568] at ov581)
        refine tr_istore dX12_readCheese_42 (by decide) (by decide) ?_
        refine tr_aload_n dX12_readCheese_44 rfl ?_
        refine q_getI dX12_readCheese_45 fl12_99 (kR15 hS576.1 ta0) c583 ?_
        refine q_iconst dX12_readCheese_48 (by decide) ?_
        intro v589 h590
        refine q_icmp_ne 53 dX12_readCheese_49 (by decide) (fun h591 => ?_) (fun h591 => ?_)
        · skip
          exfalso; exact om_1fa3e129 ov581.1 h590 h591
        · skip
          have eF := hF.eq
          have eP := hP.eq
          obtain ⟨v592, c593⟩ : ∃ v, I569 a0 10 = v := ⟨_, rfl⟩
          have b594 := iv15_10 hS576.1 ta0 c593
          obtain ⟨v595, c596⟩ : ∃ v, I569 a0 11 = v := ⟨_, rfl⟩
          obtain ⟨y597, c598⟩ : ∃ v, L571 a0 15 = v := ⟨_, rfl⟩
          obtain ⟨v599, c600⟩ : ∃ v, I569 a0 12 = v := ⟨_, rfl⟩
          obtain ⟨v601, c602⟩ : ∃ v, I569 a0 8 = v := ⟨_, rfl⟩
          have b603 := iv15_8 hS576.1 ta0 c602
          exact tr_vret hZ dX12_readCheese_52 rfl (by decide) (by decide) ⟨rfl, rfl, rfl, rfl, rfl, hS576, (fun dr hd => (Option.some.inj (d2.symm.trans hd)) ▸ hO580), (Or.inr (⟨(by (try rw [w121]); first | done | with_reducible assumption | exact om_7b84bd42 eF), (by (try rw [w121]); (try rw [c583]); first | done | with_reducible assumption | exact om_394b70a2 ov581.1), (by (try rw [w121]); (try rw [c586]); first | done | with_reducible assumption | exact om_4510ffdb p234 ov581.2.1 eF), (by (try rw [w121]); (try rw [c588]); first | done | with_reducible assumption | exact om_3998a42e p235 ov581.2.2 eP), trivial⟩)), trivial⟩
    · skip
      obtain ⟨v604, c605⟩ : ∃ v, I131 a0 9 = v := ⟨_, rfl⟩
      have b606 := iv15_9 hS139.1 ta0 c605
      rw [c605] at p157
      obtain ⟨v607, c608⟩ : ∃ v, I131 a0 13 = v := ⟨_, rfl⟩
      rw [c608] at p158
      obtain ⟨v609, c610⟩ : ∃ v, I131 a0 14 = v := ⟨_, rfl⟩
      rw [c610] at p159
      replace hF := hF.pos (by exact om_ea380f8a p156)
      replace hP := hP.pos (by exact om_ea380f8a p156)
      refine tr_lstore_n dX12_readCheese_17 (by decide) (by decide) (by decide) ?_
      refine tr_aload_n dX12_readCheese_18 rfl ?_
      refine tr_ldcwS dX12_readCheese_19 ld12_289 ?_
      refine q_iconst dX12_readCheese_22 (by decide) ?_
      intro v611 h612
      refine tr_aload_n dX12_readCheese_23 rfl ?_
      refine tr_getR dX12_readCheese_24 fl12_188 (kR15 hS139.1 ta0) d2 ?_
      refine q_getI dX12_readCheese_27 fl12_263 (kR14 hS139.1 ta1) ((hS139.cell ta1 (by decide +kernel)).trans c34) ?_
      refine q_iconst dX12_readCheese_30 (by decide) ?_
      intro v613 h614
      refine q_isubE dX12_readCheese_31 (by intro j1 j2 j3 j4; exact om_99c1ed93 b35.2 b35.1 p36 w123 h614) ?_
      intro v615 h616
      refine q_callVi hE (M' := mX12_readPart) (as := [_, _, _]) dX12_readCheese_32 lk12_249 inX12_readPart seX12_readPart myX12_readPart (by decide) ⟨by decide, by decide⟩ rfl (kR15 hS139.1 ta0) (Nat.le_of_ble_eq_true rfl) rfl rfl (by decide) (by decide) (k_X12_readPart hS139.1 ta0 (by decide)) ?_
      rintro v621 cn' K' N' I617 R618 L619 ⟨rfl, rfl, rfl, rfl, g620, p622, w623, -⟩
      have hS624 := hS139.tr g620 (by decide +kernel) (by decide +kernel)
      have c625 : I617 a1 3 = v41 := (g620.cell ta1 (by decide +kernel)).trans c140
      have b626 : 0 ≤ v621.toInt ∧ v621.toInt ≤ 3 := by exact om_5e7331f8 b35.2 b35.1 p36 w123 h612 h614 h616 p622
      clear p622
      have hO627 : FrO 14 a1 T I0 I617 := hO141.st g620 (by decide +kernel)
      have ov628 := w623.over (by rw [c605]; exact om_394b70a2 p157)
      obtain ⟨v629, c630⟩ : ∃ v, I617 a0 9 = v := ⟨_, rfl⟩
      have b631 := iv15_9 hS624.1 ta0 c630
      obtain ⟨v632, c633⟩ : ∃ v, I617 a0 13 = v := ⟨_, rfl⟩
      obtain ⟨v634, c635⟩ : ∃ v, I617 a0 14 = v := ⟨_, rfl⟩
      (try rw [c630] at ov628)
      (try rw [c633] at ov628)
      (try rw [c635] at ov628)
      (try rw [c605] at ov628)
      (try rw [c608] at ov628)
      (try rw [c610] at ov628)
      refine tr_istore_n dX12_readCheese_35 (by decide) (by decide) ?_
      refine tr_aload_n dX12_readCheese_36 rfl ?_
      refine tr_ldcS dX12_readCheese_37 ld12_186 ?_
      refine q_callVi hE (M' := mX12_eatsWord) (as := [_]) dX12_readCheese_39 lk12_290 inX12_eatsWord seX12_eatsWord myX12_eatsWord (by decide) ⟨by decide, by decide⟩ rfl (kR15 hS624.1 ta0) (Nat.le_of_ble_eq_true rfl) rfl rfl (by decide) (by decide) (k_X12_eatsWord hS624.1 ta0 (by decide)) ?_
      rintro v640 cn' K' N' I636 R637 L638 ⟨rfl, rfl, rfl, rfl, g639, h641, w642, -⟩
      have hS643 := hS624.tr g639 (by decide +kernel) (by decide +kernel)
      have c644 : I636 a1 3 = v41 := (g639.cell ta1 (by decide +kernel)).trans c625
      have c645 : I636 a0 13 = v632 := (g639.cell ta0 (by decide +kernel)).trans c633
      have c646 : I636 a0 14 = v634 := (g639.cell ta0 (by decide +kernel)).trans c635
      have hO647 : FrO 14 a1 T I0 I636 := hO627.st g639 (by decide +kernel)
      have ov648 := w642.over (by rw [c630]; exact om_394b70a2 ov628.1)
      obtain ⟨v649, c650⟩ : ∃ v, I636 a0 9 = v := ⟨_, rfl⟩
      have b651 := iv15_9 hS643.1 ta0 c650
      obtain ⟨v652, c653⟩ : ∃ v, I636 a0 13 = v := ⟨_, rfl⟩
      obtain ⟨v654, c655⟩ : ∃ v, I636 a0 14 = v := ⟨_, rfl⟩
      (try rw [c650] at ov648)
      (try rw [c653] at ov648)
      (try rw [c655] at ov648)
      (try rw [c630] at ov648)
      (try rw [c633] at ov648)
      (try rw [c635] at ov648)
      refine tr_istore dX12_readCheese_42 (by decide) (by decide) ?_
      refine tr_aload_n dX12_readCheese_44 rfl ?_
      refine q_getI dX12_readCheese_45 fl12_99 (kR15 hS643.1 ta0) c650 ?_
      refine q_iconst dX12_readCheese_48 (by decide) ?_
      intro v656 h657
      refine q_icmp_ne 53 dX12_readCheese_49 (by decide) (fun h658 => ?_) (fun h658 => ?_)
      · skip
        exfalso; exact om_1fa3e129 ov648.1 h657 h658
      · skip
        have eF := hF.eq
        have eP := hP.eq
        obtain ⟨v659, c660⟩ : ∃ v, I636 a0 10 = v := ⟨_, rfl⟩
        have b661 := iv15_10 hS643.1 ta0 c660
        obtain ⟨v662, c663⟩ : ∃ v, I636 a0 11 = v := ⟨_, rfl⟩
        obtain ⟨y664, c665⟩ : ∃ v, L638 a0 15 = v := ⟨_, rfl⟩
        obtain ⟨v666, c667⟩ : ∃ v, I636 a0 12 = v := ⟨_, rfl⟩
        obtain ⟨v668, c669⟩ : ∃ v, I636 a0 8 = v := ⟨_, rfl⟩
        have b670 := iv15_8 hS643.1 ta0 c669
        exact tr_vret hZ dX12_readCheese_52 rfl (by decide) (by decide) ⟨rfl, rfl, rfl, rfl, rfl, hS643, (fun dr hd => (Option.some.inj (d2.symm.trans hd)) ▸ hO647), (Or.inr (⟨(by (try rw [w121]); first | done | with_reducible assumption | exact om_7fac24c5 eF), (by (try rw [w121]); (try rw [c650]); first | done | with_reducible assumption | exact om_394b70a2 ov648.1), (by (try rw [w121]); (try rw [c653]); first | done | with_reducible assumption | exact om_93aef1c0 p158 ov628.2.1 ov648.2.1 eF), (by (try rw [w121]); (try rw [c655]); first | done | with_reducible assumption | exact om_3efc13ef p159 ov628.2.2 ov648.2.2 eP), trivial⟩)), trivial⟩
    · skip
      obtain ⟨v671, c672⟩ : ∃ v, I131 a0 9 = v := ⟨_, rfl⟩
      have b673 := iv15_9 hS139.1 ta0 c672
      rw [c672] at p162
      obtain ⟨v674, c675⟩ : ∃ v, I131 a0 13 = v := ⟨_, rfl⟩
      rw [c675] at p163
      obtain ⟨v676, c677⟩ : ∃ v, I131 a0 14 = v := ⟨_, rfl⟩
      rw [c677] at p164
      replace hF := hF.neg (by exact om_e4d065d5 p160)
      replace hP := hP.neg (by exact om_e4d065d5 p160)
      replace hF := hF.pos (by exact om_1b2eae89 p161)
      replace hP := hP.pos (by exact om_1b2eae89 p161)
      refine tr_lstore_n dX12_readCheese_17 (by decide) (by decide) (by decide) ?_
      refine tr_aload_n dX12_readCheese_18 rfl ?_
      refine tr_ldcwS dX12_readCheese_19 ld12_289 ?_
      refine q_iconst dX12_readCheese_22 (by decide) ?_
      intro v678 h679
      refine tr_aload_n dX12_readCheese_23 rfl ?_
      refine tr_getR dX12_readCheese_24 fl12_188 (kR15 hS139.1 ta0) d2 ?_
      refine q_getI dX12_readCheese_27 fl12_263 (kR14 hS139.1 ta1) ((hS139.cell ta1 (by decide +kernel)).trans c34) ?_
      refine q_iconst dX12_readCheese_30 (by decide) ?_
      intro v680 h681
      refine q_isubE dX12_readCheese_31 (by intro j1 j2 j3 j4; exact om_99c1ed93 b35.2 b35.1 p36 w123 h681) ?_
      intro v682 h683
      refine q_callVi hE (M' := mX12_readPart) (as := [_, _, _]) dX12_readCheese_32 lk12_249 inX12_readPart seX12_readPart myX12_readPart (by decide) ⟨by decide, by decide⟩ rfl (kR15 hS139.1 ta0) (Nat.le_of_ble_eq_true rfl) rfl rfl (by decide) (by decide) (k_X12_readPart hS139.1 ta0 (by decide)) ?_
      rintro v688 cn' K' N' I684 R685 L686 ⟨rfl, rfl, rfl, rfl, g687, p689, w690, -⟩
      have hS691 := hS139.tr g687 (by decide +kernel) (by decide +kernel)
      have c692 : I684 a1 3 = v41 := (g687.cell ta1 (by decide +kernel)).trans c140
      have b693 : 0 ≤ v688.toInt ∧ v688.toInt ≤ 3 := by exact om_5e7331f8 b35.2 b35.1 p36 w123 h679 h681 h683 p689
      clear p689
      have hO694 : FrO 14 a1 T I0 I684 := hO141.st g687 (by decide +kernel)
      have ov695 := w690.over (by rw [c672]; exact om_394b70a2 p162)
      obtain ⟨v696, c697⟩ : ∃ v, I684 a0 9 = v := ⟨_, rfl⟩
      have b698 := iv15_9 hS691.1 ta0 c697
      obtain ⟨v699, c700⟩ : ∃ v, I684 a0 13 = v := ⟨_, rfl⟩
      obtain ⟨v701, c702⟩ : ∃ v, I684 a0 14 = v := ⟨_, rfl⟩
      (try rw [c697] at ov695)
      (try rw [c700] at ov695)
      (try rw [c702] at ov695)
      (try rw [c672] at ov695)
      (try rw [c675] at ov695)
      (try rw [c677] at ov695)
      refine tr_istore_n dX12_readCheese_35 (by decide) (by decide) ?_
      refine tr_aload_n dX12_readCheese_36 rfl ?_
      refine tr_ldcS dX12_readCheese_37 ld12_186 ?_
      refine q_callVi hE (M' := mX12_eatsWord) (as := [_]) dX12_readCheese_39 lk12_290 inX12_eatsWord seX12_eatsWord myX12_eatsWord (by decide) ⟨by decide, by decide⟩ rfl (kR15 hS691.1 ta0) (Nat.le_of_ble_eq_true rfl) rfl rfl (by decide) (by decide) (k_X12_eatsWord hS691.1 ta0 (by decide)) ?_
      rintro v707 cn' K' N' I703 R704 L705 ⟨rfl, rfl, rfl, rfl, g706, h708, w709, -⟩
      have hS710 := hS691.tr g706 (by decide +kernel) (by decide +kernel)
      have c711 : I703 a1 3 = v41 := (g706.cell ta1 (by decide +kernel)).trans c692
      have c712 : I703 a0 13 = v699 := (g706.cell ta0 (by decide +kernel)).trans c700
      have c713 : I703 a0 14 = v701 := (g706.cell ta0 (by decide +kernel)).trans c702
      have hO714 : FrO 14 a1 T I0 I703 := hO694.st g706 (by decide +kernel)
      have ov715 := w709.over (by rw [c697]; exact om_394b70a2 ov695.1)
      obtain ⟨v716, c717⟩ : ∃ v, I703 a0 9 = v := ⟨_, rfl⟩
      have b718 := iv15_9 hS710.1 ta0 c717
      obtain ⟨v719, c720⟩ : ∃ v, I703 a0 13 = v := ⟨_, rfl⟩
      obtain ⟨v721, c722⟩ : ∃ v, I703 a0 14 = v := ⟨_, rfl⟩
      (try rw [c717] at ov715)
      (try rw [c720] at ov715)
      (try rw [c722] at ov715)
      (try rw [c697] at ov715)
      (try rw [c700] at ov715)
      (try rw [c702] at ov715)
      refine tr_istore dX12_readCheese_42 (by decide) (by decide) ?_
      refine tr_aload_n dX12_readCheese_44 rfl ?_
      refine q_getI dX12_readCheese_45 fl12_99 (kR15 hS710.1 ta0) c717 ?_
      refine q_iconst dX12_readCheese_48 (by decide) ?_
      intro v723 h724
      refine q_icmp_ne 53 dX12_readCheese_49 (by decide) (fun h725 => ?_) (fun h725 => ?_)
      · skip
        exfalso; exact om_1fa3e129 ov715.1 h724 h725
      · skip
        have eF := hF.eq
        have eP := hP.eq
        obtain ⟨v726, c727⟩ : ∃ v, I703 a0 10 = v := ⟨_, rfl⟩
        have b728 := iv15_10 hS710.1 ta0 c727
        obtain ⟨v729, c730⟩ : ∃ v, I703 a0 11 = v := ⟨_, rfl⟩
        obtain ⟨y731, c732⟩ : ∃ v, L705 a0 15 = v := ⟨_, rfl⟩
        obtain ⟨v733, c734⟩ : ∃ v, I703 a0 12 = v := ⟨_, rfl⟩
        obtain ⟨v735, c736⟩ : ∃ v, I703 a0 8 = v := ⟨_, rfl⟩
        have b737 := iv15_8 hS710.1 ta0 c736
        exact tr_vret hZ dX12_readCheese_52 rfl (by decide) (by decide) ⟨rfl, rfl, rfl, rfl, rfl, hS710, (fun dr hd => (Option.some.inj (d2.symm.trans hd)) ▸ hO714), (Or.inr (⟨(by (try rw [w121]); first | done | with_reducible assumption | exact om_c731b21c eF), (by (try rw [w121]); (try rw [c717]); first | done | with_reducible assumption | exact om_394b70a2 ov715.1), (by (try rw [w121]); (try rw [c720]); first | done | with_reducible assumption | exact om_7262b70c p163 ov695.2.1 ov715.2.1 eF), (by (try rw [w121]); (try rw [c722]); first | done | with_reducible assumption | exact om_3efc13ef p164 ov695.2.2 ov715.2.2 eP), trivial⟩)), trivial⟩
  · skip
    obtain ⟨v738, c739⟩ : ∃ v, I68 a0 9 = v := ⟨_, rfl⟩
    have b740 := iv15_9 hS76.1 ta0 c739
    rw [c739] at p91
    obtain ⟨v741, c742⟩ : ∃ v, I68 a0 13 = v := ⟨_, rfl⟩
    rw [c742] at p92
    obtain ⟨v743, c744⟩ : ∃ v, I68 a0 14 = v := ⟨_, rfl⟩
    rw [c744] at p93
    have p745 := p61
    unfold Q7M at p745
    replace hF := hF.pos (by exact om_84500d53 pre18 p44 h67 p90)
    replace hP := hP.pos (by exact om_84500d53 pre18 p44 h67 p90)
    clear p745
    refine tr_aload_n dX12_readCheese_13 rfl ?_
    refine q_callVl hE (M' := mX12_readFresh) (as := []) dX12_readCheese_14 lk12_285 inX12_readFresh seX12_readFresh myX12_readFresh (by decide) ⟨by decide, by decide⟩ rfl (kR15 hS76.1 ta0) (Nat.le_of_ble_eq_true rfl) rfl rfl (by decide) (by decide) (k_X12_readFresh hS76.1 ta0 ⟨_, d2⟩) ?_
    rintro y750 cn' K' N' I746 R747 L748 ⟨rfl, rfl, rfl, rfl, g749, w751, -⟩
    have hS752 := hS76.tr g749 (by decide +kernel) (by decide +kernel)
    have c753 : I746 a1 3 = v41 := (g749.cell ta1 (by decide +kernel)).trans c77
    have hO754 : FrO 14 a1 T I0 I746 := hO78.st g749 (by decide +kernel)
    have ov755 := w751.over (by rw [c739]; exact om_394b70a2 p91)
    obtain ⟨v756, c757⟩ : ∃ v, I746 a0 9 = v := ⟨_, rfl⟩
    have b758 := iv15_9 hS752.1 ta0 c757
    obtain ⟨v759, c760⟩ : ∃ v, I746 a0 13 = v := ⟨_, rfl⟩
    obtain ⟨v761, c762⟩ : ∃ v, I746 a0 14 = v := ⟨_, rfl⟩
    (try rw [c757] at ov755)
    (try rw [c760] at ov755)
    (try rw [c762] at ov755)
    (try rw [c739] at ov755)
    (try rw [c742] at ov755)
    (try rw [c744] at ov755)
    refine tr_lstore_n dX12_readCheese_17 (by decide) (by decide) (by decide) ?_
    refine tr_aload_n dX12_readCheese_18 rfl ?_
    refine tr_ldcwS dX12_readCheese_19 ld12_289 ?_
    refine q_iconst dX12_readCheese_22 (by decide) ?_
    intro v763 h764
    refine tr_aload_n dX12_readCheese_23 rfl ?_
    refine tr_getR dX12_readCheese_24 fl12_188 (kR15 hS752.1 ta0) d2 ?_
    refine q_getI dX12_readCheese_27 fl12_263 (kR14 hS752.1 ta1) ((hS752.cell ta1 (by decide +kernel)).trans c34) ?_
    refine q_iconst dX12_readCheese_30 (by decide) ?_
    intro v765 h766
    refine q_isubE dX12_readCheese_31 (by intro j1 j2 j3 j4; exact om_1b9d7214 b35.2 b35.1 p36 h766) ?_
    intro v767 h768
    refine q_callVi hE (M' := mX12_readPart) (as := [_, _, _]) dX12_readCheese_32 lk12_249 inX12_readPart seX12_readPart myX12_readPart (by decide) ⟨by decide, by decide⟩ rfl (kR15 hS752.1 ta0) (Nat.le_of_ble_eq_true rfl) rfl rfl (by decide) (by decide) (k_X12_readPart hS752.1 ta0 (by decide)) ?_
    rintro v773 cn' K' N' I769 R770 L771 ⟨rfl, rfl, rfl, rfl, g772, p774, w775, -⟩
    have hS776 := hS752.tr g772 (by decide +kernel) (by decide +kernel)
    have c777 : I769 a1 3 = v41 := (g772.cell ta1 (by decide +kernel)).trans c753
    have b778 : 0 ≤ v773.toInt ∧ v773.toInt ≤ 3 := by exact om_6482dea5 b35.2 b35.1 p36 h764 h766 h768 p774
    clear p774
    have hO779 : FrO 14 a1 T I0 I769 := hO754.st g772 (by decide +kernel)
    have ov780 := w775.over (by rw [c757]; exact om_394b70a2 ov755.1)
    obtain ⟨v781, c782⟩ : ∃ v, I769 a0 9 = v := ⟨_, rfl⟩
    have b783 := iv15_9 hS776.1 ta0 c782
    obtain ⟨v784, c785⟩ : ∃ v, I769 a0 13 = v := ⟨_, rfl⟩
    obtain ⟨v786, c787⟩ : ∃ v, I769 a0 14 = v := ⟨_, rfl⟩
    (try rw [c782] at ov780)
    (try rw [c785] at ov780)
    (try rw [c787] at ov780)
    (try rw [c757] at ov780)
    (try rw [c760] at ov780)
    (try rw [c762] at ov780)
    refine tr_istore_n dX12_readCheese_35 (by decide) (by decide) ?_
    refine tr_aload_n dX12_readCheese_36 rfl ?_
    refine tr_ldcS dX12_readCheese_37 ld12_186 ?_
    refine q_callVi hE (M' := mX12_eatsWord) (as := [_]) dX12_readCheese_39 lk12_290 inX12_eatsWord seX12_eatsWord myX12_eatsWord (by decide) ⟨by decide, by decide⟩ rfl (kR15 hS776.1 ta0) (Nat.le_of_ble_eq_true rfl) rfl rfl (by decide) (by decide) (k_X12_eatsWord hS776.1 ta0 (by decide)) ?_
    rintro v792 cn' K' N' I788 R789 L790 ⟨rfl, rfl, rfl, rfl, g791, h793, w794, -⟩
    have hS795 := hS776.tr g791 (by decide +kernel) (by decide +kernel)
    have c796 : I788 a1 3 = v41 := (g791.cell ta1 (by decide +kernel)).trans c777
    have c797 : I788 a0 13 = v784 := (g791.cell ta0 (by decide +kernel)).trans c785
    have c798 : I788 a0 14 = v786 := (g791.cell ta0 (by decide +kernel)).trans c787
    have hO799 : FrO 14 a1 T I0 I788 := hO779.st g791 (by decide +kernel)
    have ov800 := w794.over (by rw [c782]; exact om_394b70a2 ov780.1)
    obtain ⟨v801, c802⟩ : ∃ v, I788 a0 9 = v := ⟨_, rfl⟩
    have b803 := iv15_9 hS795.1 ta0 c802
    obtain ⟨v804, c805⟩ : ∃ v, I788 a0 13 = v := ⟨_, rfl⟩
    obtain ⟨v806, c807⟩ : ∃ v, I788 a0 14 = v := ⟨_, rfl⟩
    (try rw [c802] at ov800)
    (try rw [c805] at ov800)
    (try rw [c807] at ov800)
    (try rw [c782] at ov800)
    (try rw [c785] at ov800)
    (try rw [c787] at ov800)
    refine tr_istore dX12_readCheese_42 (by decide) (by decide) ?_
    refine tr_aload_n dX12_readCheese_44 rfl ?_
    refine q_getI dX12_readCheese_45 fl12_99 (kR15 hS795.1 ta0) c802 ?_
    refine q_iconst dX12_readCheese_48 (by decide) ?_
    intro v808 h809
    refine q_icmp_ne 53 dX12_readCheese_49 (by decide) (fun h810 => ?_) (fun h810 => ?_)
    · skip
      exfalso; exact om_1fa3e129 ov800.1 h809 h810
    · skip
      have eF := hF.eq
      have eP := hP.eq
      obtain ⟨v811, c812⟩ : ∃ v, I788 a0 10 = v := ⟨_, rfl⟩
      have b813 := iv15_10 hS795.1 ta0 c812
      obtain ⟨v814, c815⟩ : ∃ v, I788 a0 11 = v := ⟨_, rfl⟩
      obtain ⟨y816, c817⟩ : ∃ v, L790 a0 15 = v := ⟨_, rfl⟩
      obtain ⟨v818, c819⟩ : ∃ v, I788 a0 12 = v := ⟨_, rfl⟩
      obtain ⟨v820, c821⟩ : ∃ v, I788 a0 8 = v := ⟨_, rfl⟩
      have b822 := iv15_8 hS795.1 ta0 c821
      exact tr_vret hZ dX12_readCheese_52 rfl (by decide) (by decide) ⟨rfl, rfl, rfl, rfl, rfl, hS795, (fun dr hd => (Option.some.inj (d2.symm.trans hd)) ▸ hO799), (Or.inr (⟨(by first | done | with_reducible assumption | exact om_64c62efe eF), (by (try rw [c802]); first | done | with_reducible assumption | exact om_394b70a2 ov800.1), (by (try rw [c805]); first | done | with_reducible assumption | exact om_7cfe2b67 p92 ov755.2.1 ov780.2.1 ov800.2.1 eF), (by (try rw [c807]); first | done | with_reducible assumption | exact om_da179cc4 p11 p93 ov755.2.2 ov780.2.2 ov800.2.2 eP), trivial⟩)), trivial⟩
  · skip
    obtain ⟨v823, c824⟩ : ∃ v, I68 a0 9 = v := ⟨_, rfl⟩
    have b825 := iv15_9 hS76.1 ta0 c824
    rw [c824] at p96
    obtain ⟨v826, c827⟩ : ∃ v, I68 a0 13 = v := ⟨_, rfl⟩
    rw [c827] at p97
    obtain ⟨v828, c829⟩ : ∃ v, I68 a0 14 = v := ⟨_, rfl⟩
    rw [c829] at p98
    have p830 := p61
    unfold Q7M at p830
    replace hF := hF.neg (by exact om_e5c614a3 pre18 b43.2 b43.1 p44 h67 p94 p95 p830)
    replace hP := hP.neg (by exact om_e5c614a3 pre18 b43.2 b43.1 p44 h67 p94 p95 p830)
    replace hF := hF.pos (by exact om_ed099d78 pre18 p95 p830)
    replace hP := hP.pos (by exact om_ed099d78 pre18 p95 p830)
    clear p830
    refine tr_aload_n dX12_readCheese_13 rfl ?_
    refine q_callVl hE (M' := mX12_readFresh) (as := []) dX12_readCheese_14 lk12_285 inX12_readFresh seX12_readFresh myX12_readFresh (by decide) ⟨by decide, by decide⟩ rfl (kR15 hS76.1 ta0) (Nat.le_of_ble_eq_true rfl) rfl rfl (by decide) (by decide) (k_X12_readFresh hS76.1 ta0 ⟨_, d2⟩) ?_
    rintro y835 cn' K' N' I831 R832 L833 ⟨rfl, rfl, rfl, rfl, g834, w836, -⟩
    have hS837 := hS76.tr g834 (by decide +kernel) (by decide +kernel)
    have c838 : I831 a1 3 = v41 := (g834.cell ta1 (by decide +kernel)).trans c77
    have hO839 : FrO 14 a1 T I0 I831 := hO78.st g834 (by decide +kernel)
    have ov840 := w836.over (by rw [c824]; exact om_394b70a2 p96)
    obtain ⟨v841, c842⟩ : ∃ v, I831 a0 9 = v := ⟨_, rfl⟩
    have b843 := iv15_9 hS837.1 ta0 c842
    obtain ⟨v844, c845⟩ : ∃ v, I831 a0 13 = v := ⟨_, rfl⟩
    obtain ⟨v846, c847⟩ : ∃ v, I831 a0 14 = v := ⟨_, rfl⟩
    (try rw [c842] at ov840)
    (try rw [c845] at ov840)
    (try rw [c847] at ov840)
    (try rw [c824] at ov840)
    (try rw [c827] at ov840)
    (try rw [c829] at ov840)
    refine tr_lstore_n dX12_readCheese_17 (by decide) (by decide) (by decide) ?_
    refine tr_aload_n dX12_readCheese_18 rfl ?_
    refine tr_ldcwS dX12_readCheese_19 ld12_289 ?_
    refine q_iconst dX12_readCheese_22 (by decide) ?_
    intro v848 h849
    refine tr_aload_n dX12_readCheese_23 rfl ?_
    refine tr_getR dX12_readCheese_24 fl12_188 (kR15 hS837.1 ta0) d2 ?_
    refine q_getI dX12_readCheese_27 fl12_263 (kR14 hS837.1 ta1) ((hS837.cell ta1 (by decide +kernel)).trans c34) ?_
    refine q_iconst dX12_readCheese_30 (by decide) ?_
    intro v850 h851
    refine q_isubE dX12_readCheese_31 (by intro j1 j2 j3 j4; exact om_1b9d7214 b35.2 b35.1 p36 h851) ?_
    intro v852 h853
    refine q_callVi hE (M' := mX12_readPart) (as := [_, _, _]) dX12_readCheese_32 lk12_249 inX12_readPart seX12_readPart myX12_readPart (by decide) ⟨by decide, by decide⟩ rfl (kR15 hS837.1 ta0) (Nat.le_of_ble_eq_true rfl) rfl rfl (by decide) (by decide) (k_X12_readPart hS837.1 ta0 (by decide)) ?_
    rintro v858 cn' K' N' I854 R855 L856 ⟨rfl, rfl, rfl, rfl, g857, p859, w860, -⟩
    have hS861 := hS837.tr g857 (by decide +kernel) (by decide +kernel)
    have c862 : I854 a1 3 = v41 := (g857.cell ta1 (by decide +kernel)).trans c838
    have b863 : 0 ≤ v858.toInt ∧ v858.toInt ≤ 3 := by exact om_6482dea5 b35.2 b35.1 p36 h849 h851 h853 p859
    clear p859
    have hO864 : FrO 14 a1 T I0 I854 := hO839.st g857 (by decide +kernel)
    have ov865 := w860.over (by rw [c842]; exact om_394b70a2 ov840.1)
    obtain ⟨v866, c867⟩ : ∃ v, I854 a0 9 = v := ⟨_, rfl⟩
    have b868 := iv15_9 hS861.1 ta0 c867
    obtain ⟨v869, c870⟩ : ∃ v, I854 a0 13 = v := ⟨_, rfl⟩
    obtain ⟨v871, c872⟩ : ∃ v, I854 a0 14 = v := ⟨_, rfl⟩
    (try rw [c867] at ov865)
    (try rw [c870] at ov865)
    (try rw [c872] at ov865)
    (try rw [c842] at ov865)
    (try rw [c845] at ov865)
    (try rw [c847] at ov865)
    refine tr_istore_n dX12_readCheese_35 (by decide) (by decide) ?_
    refine tr_aload_n dX12_readCheese_36 rfl ?_
    refine tr_ldcS dX12_readCheese_37 ld12_186 ?_
    refine q_callVi hE (M' := mX12_eatsWord) (as := [_]) dX12_readCheese_39 lk12_290 inX12_eatsWord seX12_eatsWord myX12_eatsWord (by decide) ⟨by decide, by decide⟩ rfl (kR15 hS861.1 ta0) (Nat.le_of_ble_eq_true rfl) rfl rfl (by decide) (by decide) (k_X12_eatsWord hS861.1 ta0 (by decide)) ?_
    rintro v877 cn' K' N' I873 R874 L875 ⟨rfl, rfl, rfl, rfl, g876, h878, w879, -⟩
    have hS880 := hS861.tr g876 (by decide +kernel) (by decide +kernel)
    have c881 : I873 a1 3 = v41 := (g876.cell ta1 (by decide +kernel)).trans c862
    have c882 : I873 a0 13 = v869 := (g876.cell ta0 (by decide +kernel)).trans c870
    have c883 : I873 a0 14 = v871 := (g876.cell ta0 (by decide +kernel)).trans c872
    have hO884 : FrO 14 a1 T I0 I873 := hO864.st g876 (by decide +kernel)
    have ov885 := w879.over (by rw [c867]; exact om_394b70a2 ov865.1)
    obtain ⟨v886, c887⟩ : ∃ v, I873 a0 9 = v := ⟨_, rfl⟩
    have b888 := iv15_9 hS880.1 ta0 c887
    obtain ⟨v889, c890⟩ : ∃ v, I873 a0 13 = v := ⟨_, rfl⟩
    obtain ⟨v891, c892⟩ : ∃ v, I873 a0 14 = v := ⟨_, rfl⟩
    (try rw [c887] at ov885)
    (try rw [c890] at ov885)
    (try rw [c892] at ov885)
    (try rw [c867] at ov885)
    (try rw [c870] at ov885)
    (try rw [c872] at ov885)
    refine tr_istore dX12_readCheese_42 (by decide) (by decide) ?_
    refine tr_aload_n dX12_readCheese_44 rfl ?_
    refine q_getI dX12_readCheese_45 fl12_99 (kR15 hS880.1 ta0) c887 ?_
    refine q_iconst dX12_readCheese_48 (by decide) ?_
    intro v893 h894
    refine q_icmp_ne 53 dX12_readCheese_49 (by decide) (fun h895 => ?_) (fun h895 => ?_)
    · skip
      exfalso; exact om_1fa3e129 ov885.1 h894 h895
    · skip
      have eF := hF.eq
      have eP := hP.eq
      obtain ⟨v896, c897⟩ : ∃ v, I873 a0 10 = v := ⟨_, rfl⟩
      have b898 := iv15_10 hS880.1 ta0 c897
      obtain ⟨v899, c900⟩ : ∃ v, I873 a0 11 = v := ⟨_, rfl⟩
      obtain ⟨y901, c902⟩ : ∃ v, L875 a0 15 = v := ⟨_, rfl⟩
      obtain ⟨v903, c904⟩ : ∃ v, I873 a0 12 = v := ⟨_, rfl⟩
      obtain ⟨v905, c906⟩ : ∃ v, I873 a0 8 = v := ⟨_, rfl⟩
      have b907 := iv15_8 hS880.1 ta0 c906
      exact tr_vret hZ dX12_readCheese_52 rfl (by decide) (by decide) ⟨rfl, rfl, rfl, rfl, rfl, hS880, (fun dr hd => (Option.some.inj (d2.symm.trans hd)) ▸ hO884), (Or.inr (⟨(by first | done | with_reducible assumption | exact om_3a8e1f7c eF), (by (try rw [c887]); first | done | with_reducible assumption | exact om_394b70a2 ov885.1), (by (try rw [c890]); first | done | with_reducible assumption | exact om_d18265bf p97 ov840.2.1 ov865.2.1 ov885.2.1 eF), (by (try rw [c892]); first | done | with_reducible assumption | exact om_da179cc4 p11 p98 ov840.2.2 ov865.2.2 ov885.2.2 eP), trivial⟩)), trivial⟩
