def wi_X7_readHuts : List Nat := [261, 450, 451, 452, 454, 463, 464]
def wr_X7_readHuts : List Nat := []
set_option maxHeartbeats 4000000 in
theorem k_X7_readHuts {l : Launch} {T : Nat → Nat} {cn : Nat} {K N : Nat → Nat} {I0 : cz_I} {R0 : cz_R} {L0 : cz_L} {d : Int} (hW0 : Wf T cn K N I0 R0 d) {a0 : Nat} (ta0 : T a0 = 7) {a1 : Nat} (ta1 : T a1 = 4) : ConE l mX7_readHuts [.ref a0, .ref a1] cn K N I0 R0 L0 (ca_i (fun v cn' K' N' I' R' L' => cn = cn' ∧ K = K' ∧ N = N' ∧ R0 = R' ∧ St T cn K N d wi_X7_readHuts wr_X7_readHuts I0 R0 I' R0 ∧ (0 ≤ v.toInt ∧ v.toInt ≤ 1) ∧ True)) := by
  refine ConE.of (by decide +kernel) rfl (Nat.le_of_ble_eq_true rfl) rfl (fun X hX hZ hE => ?_)
  subst hX
  have hS0 : St T cn K N d wi_X7_readHuts wr_X7_readHuts I0 R0 I0 R0 := St.rf0 hW0
  refine tr_aload_n dX7_readHuts_0 rfl ?_
  refine q_iconst dX7_readHuts_1 (by decide) ?_
  intro v1 h2
  refine q_putI dX7_readHuts_2 fl7_274 (kR4 hS0.1 ta1) (Or.inl rfl) hS0 ta1 (iokF rfl) rfl (by decide +kernel) ?_
  intro I3 hS4 e5 f6
  refine q_iconst dX7_readHuts_5 (by decide) ?_
  intro v7 h8
  refine tr_istore_n dX7_readHuts_6 (by decide) (by decide) ?_
  have lp17 : ∀ (fu : Nat) (ls : Nat → Option Value) (v9 : Int32) (I13 : cz_I) (L14 : cz_L), ls 0 = some (.ref a0) → ls 1 = some (.ref a1) → ls 2 = some (.int v9) → St T cn K N d wi_X7_readHuts wr_X7_readHuts I0 R0 I13 R0 → 0 ≤ v9.toInt → (-v9.toInt + 2147483647).toNat < fu → Tr X mX7_readHuts 7 ls [] cn K N I13 R0 L14 0 0 := by
    intro fu
    induction fu with
    | zero => intros; rename_i hz; exact absurd hz (Nat.not_lt_zero _)
    | succ fu ih17 =>
      intro ls v9 I13 L14 hl10 hl11 hl12 hS15 g16 hm17
      refine tr_iload_n dX7_readHuts_7 hl12 ?_
      refine q_sipush dX7_readHuts_8 (by decide +kernel) ?_
      intro v19 h20
      refine q_icmp_gt 93 dX7_readHuts_11 (by decide) (fun h21 => ?_) (fun h21 => ?_)
      · skip
        refine tr_aload_n dX7_readHuts_93 hl10 ?_
        refine q_iconst dX7_readHuts_94 (by decide) ?_
        intro v22 h23
        refine q_callVi hE (M' := mX7_fail) (as := [_]) dX7_readHuts_95 lk7_64 inX7_fail seX7_fail myX7_fail (by decide) ⟨by decide, by decide⟩ rfl (kR7 hS15.1 ta0) (Nat.le_of_ble_eq_true rfl) rfl rfl (by decide) (by decide) (k_X7_fail hS15.1 ta0) ?_
        rintro v28 cn' K' N' I24 R25 L26 ⟨rfl, rfl, rfl, rfl, rfl, g27, h29, -⟩
        have hS30 := hS15.tr g27 (by decide +kernel) (by decide +kernel)
        exact tr_zret hZ dX7_readHuts_98 rfl (ti_b01 (by omega) (by omega)) (by decide) (by decide) ⟨v28, rfl, rfl, rfl, rfl, rfl, hS30, (by omega), trivial⟩
      · skip
        refine tr_aload_n dX7_readHuts_14 hl10 ?_
        refine q_iconst dX7_readHuts_15 (by decide) ?_
        intro v31 h32
        refine tr_aload_n dX7_readHuts_16 hl10 ?_
        obtain ⟨a33, d34, ta33⟩ := rf7_10 hW0 ta0
        refine tr_getR dX7_readHuts_17 fl7_22 (kR7 hS15.1 ta0) d34 ?_
        obtain ⟨v35, c36⟩ : ∃ v, I0 a33 1 = v := ⟨_, rfl⟩
        have b37 := iv2_1 hW0 ta33 c36
        refine q_getI dX7_readHuts_20 fl7_112 (kR2 hS15.1 ta33) ((hS15.cell ta33 (by decide +kernel)).trans c36) ?_
        refine q_iconst dX7_readHuts_23 (by decide) ?_
        intro v38 h39
        refine q_isubE dX7_readHuts_24 (by intros; omega) ?_
        intro v40 h41
        obtain ⟨v42, c43⟩ : ∃ v, I13 a0 6 = v := ⟨_, rfl⟩
        refine q_callVi hE (M' := mX7_seesWhole) (as := [_, _]) dX7_readHuts_25 lk7_105 inX7_seesWhole seX7_seesWhole myX7_seesWhole (by decide) ⟨by decide, by decide⟩ rfl (kR7 hS15.1 ta0) (Nat.le_of_ble_eq_true rfl) rfl rfl (by decide) (by decide) (k_X7_seesWhole hS15.1 ta0) ?_
        rintro v48 cn' K' N' I44 R45 L46 ⟨rfl, rfl, rfl, rfl, rfl, g47, h49, p50, -⟩
        have hS51 := hS15.tr g47 (by decide +kernel) (by decide +kernel)
        have c52 : I44 a0 6 = v42 := (g47.cell ta0 (by decide +kernel)).trans c43
        rw [c43] at p50
        refine q_if_ne 33 dX7_readHuts_28 (by decide) (fun h53 => ?_) (fun h53 => ?_)
        · skip
          refine tr_aload_n dX7_readHuts_33 hl11 ?_
          obtain ⟨v54, c55⟩ : ∃ v, I44 a1 5 = v := ⟨_, rfl⟩
          refine q_getI dX7_readHuts_34 fl7_274 (kR4 hS51.1 ta1) c55 ?_
          refine tr_aload_n dX7_readHuts_37 hl10 ?_
          refine q_getI dX7_readHuts_38 fl7_86 (kR7 hS51.1 ta0) c52 ?_
          refine q_callSNi hE (M' := mX10_bit) (as := [_, _]) dX7_readHuts_41 lk7_275 inX10_bit myX10_bit ⟨by decide, by decide⟩ rfl (Nat.le_of_ble_eq_true rfl) rfl rfl (by decide) (by decide) (k_X10_bit hS51.1 ) ?_
          rintro v60 cn' K' N' I56 R57 L58 ⟨rfl, rfl, rfl, rfl, rfl, rfl, -⟩
          refine q_iconst dX7_readHuts_44 (by decide) ?_
          intro v61 h62
          refine q_icmp_ne 54 dX7_readHuts_45 (by decide) (fun h63 => ?_) (fun h63 => ?_)
          · skip
            refine tr_aload_n dX7_readHuts_54 hl11 ?_
            refine tr_dup dX7_readHuts_55 rfl ?_
            refine q_getI dX7_readHuts_56 fl7_274 (kR4 hS51.1 ta1) c55 ?_
            refine q_iconst dX7_readHuts_59 (by decide) ?_
            intro v64 h65
            refine tr_aload_n dX7_readHuts_60 hl10 ?_
            refine q_getI dX7_readHuts_61 fl7_86 (kR7 hS51.1 ta0) c52 ?_
            refine q_ishlE dX7_readHuts_64 (by omega) (by omega) ?_
            intro v66 h67
            refine q_ior dX7_readHuts_65 ?_
            intro v68
            refine q_putI dX7_readHuts_66 fl7_274 (kR4 hS51.1 ta1) (Or.inl rfl) hS51 ta1 (iokF rfl) rfl (by decide +kernel) ?_
            intro I69 hS70 e71 f72
            have c73 : I69 a0 6 = v42 := (f72 _ _ (fun q => absurd q.2 (by decide))).trans c52
            refine tr_aload_n dX7_readHuts_69 hl10 ?_
            refine q_callVv hE (M' := mX7_step) (as := []) dX7_readHuts_70 lk7_51 inX7_step seX7_step myX7_step (by decide) ⟨by decide, by decide⟩ rfl (kR7 hS70.1 ta0) (Nat.le_of_ble_eq_true rfl) rfl rfl (by decide) (by decide) (k_X7_step hS70.1 ta0) ?_
            rintro cn' K' N' I74 R75 L76 ⟨rfl, rfl, rfl, rfl, g77, -⟩
            have hS79 := hS70.tr g77 (by decide +kernel) (by decide +kernel)
            have c80 : I74 a1 5 = v68 := (g77.cell ta1 (by decide +kernel)).trans e71
            refine tr_aload_n dX7_readHuts_73 hl10 ?_
            obtain ⟨v81, c82⟩ : ∃ v, I74 a0 3 = v := ⟨_, rfl⟩
            have b83 := iv7_3 hS79.1 ta0 c82
            refine q_getI dX7_readHuts_74 fl7_58 (kR7 hS79.1 ta0) c82 ?_
            refine q_iconst dX7_readHuts_77 (by decide) ?_
            intro v84 h85
            refine q_icmp_eq 83 dX7_readHuts_78 (by decide) (fun h86 => ?_) (fun h86 => ?_)
            · skip
              refine tr_aload_n dX7_readHuts_83 hl10 ?_
              refine q_callVv hE (M' := mX7_step) (as := []) dX7_readHuts_84 lk7_51 inX7_step seX7_step myX7_step (by decide) ⟨by decide, by decide⟩ rfl (kR7 hS79.1 ta0) (Nat.le_of_ble_eq_true rfl) rfl rfl (by decide) (by decide) (k_X7_step hS79.1 ta0) ?_
              rintro cn' K' N' I87 R88 L89 ⟨rfl, rfl, rfl, rfl, g90, -⟩
              have hS92 := hS79.tr g90 (by decide +kernel) (by decide +kernel)
              have c93 : I87 a1 5 = v68 := (g90.cell ta1 (by decide +kernel)).trans c80
              refine q_iincE dX7_readHuts_87 hl12 (by decide) (by decide) (by intros; omega) ?_
              intro v94 h95
              refine tr_goto 7 dX7_readHuts_90 (by decide) ?_
              exact ih17 _ v94 I87 L89 hl10 hl11 rfl hS92 (by omega) (by omega)
            · skip
              refine q_iconst dX7_readHuts_81 (by decide) ?_
              intro v96 h97
              exact tr_zret hZ dX7_readHuts_82 rfl (ti_b01 (by omega) (by omega)) (by decide) (by decide) ⟨v96, rfl, rfl, rfl, rfl, rfl, hS79, (by omega), trivial⟩
          · skip
            refine tr_aload_n dX7_readHuts_48 hl10 ?_
            refine q_iconst dX7_readHuts_49 (by decide) ?_
            intro v98 h99
            refine q_callVi hE (M' := mX7_fail) (as := [_]) dX7_readHuts_50 lk7_64 inX7_fail seX7_fail myX7_fail (by decide) ⟨by decide, by decide⟩ rfl (kR7 hS51.1 ta0) (Nat.le_of_ble_eq_true rfl) rfl rfl (by decide) (by decide) (k_X7_fail hS51.1 ta0) ?_
            rintro v104 cn' K' N' I100 R101 L102 ⟨rfl, rfl, rfl, rfl, rfl, g103, h105, -⟩
            have hS106 := hS51.tr g103 (by decide +kernel) (by decide +kernel)
            have c107 : I100 a0 6 = v42 := (g103.cell ta0 (by decide +kernel)).trans c52
            have c108 : I100 a1 5 = v54 := (g103.cell ta1 (by decide +kernel)).trans c55
            exact tr_zret hZ dX7_readHuts_53 rfl (ti_b01 (by omega) (by omega)) (by decide) (by decide) ⟨v104, rfl, rfl, rfl, rfl, rfl, hS106, (by omega), trivial⟩
        · skip
          refine q_iconst dX7_readHuts_31 (by decide) ?_
          intro v109 h110
          exact tr_zret hZ dX7_readHuts_32 rfl (ti_b01 (by omega) (by omega)) (by decide) (by decide) ⟨v109, rfl, rfl, rfl, rfl, rfl, hS51, (by omega), trivial⟩
  exact lp17 _ _ v7 I3 L0 rfl rfl rfl hS4 (by omega) (Nat.lt_succ_self _)
def wi_X7_readTurner : List Nat := [137, 256, 257, 258, 259, 260, 261, 450, 451, 452, 454, 455, 456, 457, 463, 464]
def wr_X7_readTurner : List Nat := []
set_option maxHeartbeats 4000000 in
theorem k_X7_readTurner {l : Launch} {T : Nat → Nat} {cn : Nat} {K N : Nat → Nat} {I0 : cz_I} {R0 : cz_R} {L0 : cz_L} {d : Int} (hW0 : Wf T cn K N I0 R0 d) {a0 : Nat} (ta0 : T a0 = 7) (pre0 : ∀ b1, R0 a0 10 = some b1 → (I0 b1 9).toInt ≤ 4) : ConE l mX7_readTurner [.ref a0] cn K N I0 R0 L0 (ca_i (fun v cn' K' N' I' R' L' => cn = cn' ∧ K = K' ∧ N = N' ∧ R0 = R' ∧ St T cn K N d wi_X7_readTurner wr_X7_readTurner I0 R0 I' R0 ∧ (0 ≤ v.toInt ∧ v.toInt ≤ 1) ∧ True)) := by
  refine ConE.of (by decide +kernel) rfl (Nat.le_of_ble_eq_true rfl) rfl (fun X hX hZ hE => ?_)
  subst hX
  have hS0 : St T cn K N d wi_X7_readTurner wr_X7_readTurner I0 R0 I0 R0 := St.rf0 hW0
  obtain ⟨a1, d2, ta1⟩ := rf7_10 hW0 ta0
  obtain ⟨v3, c4⟩ : ∃ v, I0 a1 9 = v := ⟨_, rfl⟩
  have b5 := iv2_9 hS0.1 ta1 c4
  have p6 := pre0 _ d2
  rw [c4] at p6
  refine tr_aload_n dX7_readTurner_0 rfl ?_
  refine q_callVi hE (M' := mX7_seesNewName) (as := []) dX7_readTurner_1 lk7_231 inX7_seesNewName seX7_seesNewName myX7_seesNewName (by decide) ⟨by decide, by decide⟩ rfl (kR7 hS0.1 ta0) (Nat.le_of_ble_eq_true rfl) rfl rfl (by decide) (by decide) (k_X7_seesNewName hS0.1 ta0) ?_
  rintro v11 cn' K' N' I7 R8 L9 ⟨rfl, rfl, rfl, rfl, rfl, g10, h12, -⟩
  have hS13 := hS0.tr g10 (by decide +kernel) (by decide +kernel)
  have c14 : I7 a1 9 = v3 := (g10.cell ta1 (by decide +kernel)).trans c4
  refine q_if_ne 9 dX7_readTurner_4 (by decide) (fun h15 => ?_) (fun h15 => ?_)
  · skip
    refine tr_aload_n dX7_readTurner_9 rfl ?_
    obtain ⟨a16, d17, ta16⟩ := rf7_14 hW0 ta0
    refine tr_getR dX7_readTurner_10 fl7_15 (kR7 hS13.1 ta0) d17 ?_
    refine tr_aload_n dX7_readTurner_13 rfl ?_
    refine tr_getR dX7_readTurner_14 fl7_22 (kR7 hS13.1 ta0) d2 ?_
    refine q_getI dX7_readTurner_17 fl7_156 (kR2 hS13.1 ta1) c14 ?_
    refine tr_aload_n dX7_readTurner_20 rfl ?_
    refine q_getL dX7_readTurner_21 fl7_78 (kR7 hS13.1 ta0) ?_
    intro y18
    refine q_last dX7_readTurner_24 (kR26 hS13.1 ta16) (ti_in (nR26 hS13.1 ta16) (by omega) (by omega)) ?_
    intro L19
    refine tr_aload_n dX7_readTurner_25 rfl ?_
    refine tr_getR dX7_readTurner_26 fl7_22 (kR7 hS13.1 ta0) d2 ?_
    obtain ⟨a20, d21, ta20⟩ := rf2_10 hW0 ta1
    refine tr_getR dX7_readTurner_29 fl7_243 (kR2 hS13.1 ta1) d21 ?_
    refine tr_aload_n dX7_readTurner_32 rfl ?_
    refine tr_getR dX7_readTurner_33 fl7_22 (kR7 hS13.1 ta0) d2 ?_
    refine q_getI dX7_readTurner_36 fl7_156 (kR2 hS13.1 ta1) c14 ?_
    obtain ⟨a22, d23, ta22⟩ := rf21 hS13.1 ta20 (j := v3.toNatClampNeg) (ti_lt (by omega) (by omega))
    refine tr_aald dX7_readTurner_39 (kR21 hS13.1 ta20) (by decide) (by decide) (ti_in (nR21 hS13.1 ta20) (by omega) (by omega)) d23 ?_
    refine tr_astore_n dX7_readTurner_40 (by decide) (by decide) ?_
    refine tr_aload_n dX7_readTurner_41 rfl ?_
    refine q_callVv hE (M' := mX7_step) (as := []) dX7_readTurner_42 lk7_51 inX7_step seX7_step myX7_step (by decide) ⟨by decide, by decide⟩ rfl (kR7 hS13.1 ta0) (Nat.le_of_ble_eq_true rfl) rfl rfl (by decide) (by decide) (k_X7_step hS13.1 ta0) ?_
    rintro cn' K' N' I24 R25 L26 ⟨rfl, rfl, rfl, rfl, g27, -⟩
    have hS29 := hS13.tr g27 (by decide +kernel) (by decide +kernel)
    have c30 : I24 a1 9 = v3 := (g27.cell ta1 (by decide +kernel)).trans c14
    refine tr_aload_n dX7_readTurner_45 rfl ?_
    refine tr_aload_n dX7_readTurner_46 rfl ?_
    refine q_callVi hE (M' := mX7_turnerKind) (as := []) dX7_readTurner_47 lk7_247 inX7_turnerKind seX7_turnerKind myX7_turnerKind (by decide) ⟨by decide, by decide⟩ rfl (kR7 hS29.1 ta0) (Nat.le_of_ble_eq_true rfl) rfl rfl (by decide) (by decide) (k_X7_turnerKind hS29.1 ta0) ?_
    rintro v35 cn' K' N' I31 R32 L33 ⟨rfl, rfl, rfl, rfl, rfl, rfl, h36, -⟩
    refine q_putI dX7_readTurner_50 fl7_250 (kR4 hS29.1 ta22) (Or.inl rfl) hS29 ta22 (iokF rfl) rfl (by decide +kernel) ?_
    intro I37 hS38 e39 f40
    have c41 : I37 a1 9 = v3 := (f40 _ _ (fun q => absurd q.2 (by decide))).trans c30
    refine tr_aload_n dX7_readTurner_53 rfl ?_
    refine q_getI dX7_readTurner_54 fl7_250 (kR4 hS38.1 ta22) e39 ?_
    refine q_iconst dX7_readTurner_57 (by decide) ?_
    intro v42 h43
    refine q_icmp_ne 67 dX7_readTurner_58 (by decide) (fun h44 => ?_) (fun h44 => ?_)
    · skip
      refine tr_aload_n dX7_readTurner_67 rfl ?_
      refine q_callVv hE (M' := mX7_step) (as := []) dX7_readTurner_68 lk7_51 inX7_step seX7_step myX7_step (by decide) ⟨by decide, by decide⟩ rfl (kR7 hS38.1 ta0) (Nat.le_of_ble_eq_true rfl) rfl rfl (by decide) (by decide) (k_X7_step hS38.1 ta0) ?_
      rintro cn' K' N' I45 R46 L47 ⟨rfl, rfl, rfl, rfl, g48, -⟩
      have hS50 := hS38.tr g48 (by decide +kernel) (by decide +kernel)
      have c51 : I45 a1 9 = v3 := (g48.cell ta1 (by decide +kernel)).trans c41
      have c52 : I45 a22 0 = v35 := (g48.cell ta22 (by decide +kernel)).trans e39
      refine tr_aload_n dX7_readTurner_71 rfl ?_
      refine tr_ldcS dX7_readTurner_72 ld7_253 ?_
      refine q_callVi hE (M' := mX7_takeWord) (as := [_]) dX7_readTurner_74 lk7_126 inX7_takeWord seX7_takeWord myX7_takeWord (by decide) ⟨by decide, by decide⟩ rfl (kR7 hS50.1 ta0) (Nat.le_of_ble_eq_true rfl) rfl rfl (by decide) (by decide) (k_X7_takeWord hS50.1 ta0 (by decide)) ?_
      rintro v57 cn' K' N' I53 R54 L55 ⟨rfl, rfl, rfl, rfl, g56, h58, -⟩
      have hS59 := hS50.tr g56 (by decide +kernel) (by decide +kernel)
      have c60 : I53 a1 9 = v3 := (g56.cell ta1 (by decide +kernel)).trans c51
      have c61 : I53 a22 0 = v35 := (g56.cell ta22 (by decide +kernel)).trans c52
      refine q_if_eq 87 dX7_readTurner_77 (by decide) (fun h62 => ?_) (fun h62 => ?_)
      · skip
        refine q_iconst dX7_readTurner_87 (by decide) ?_
        intro v63 h64
        exact tr_zret hZ dX7_readTurner_88 rfl (ti_b01 (by omega) (by omega)) (by decide) (by decide) ⟨v63, rfl, rfl, rfl, rfl, rfl, hS59, (by omega), trivial⟩
      · skip
        refine tr_aload_n dX7_readTurner_80 rfl ?_
        refine q_callVi hE (M' := mX7_takeSpan) (as := []) dX7_readTurner_81 lk7_226 inX7_takeSpan seX7_takeSpan myX7_takeSpan (by decide) ⟨by decide, by decide⟩ rfl (kR7 hS59.1 ta0) (Nat.le_of_ble_eq_true rfl) rfl rfl (by decide) (by decide) (k_X7_takeSpan hS59.1 ta0) ?_
        rintro v69 cn' K' N' I65 R66 L67 ⟨rfl, rfl, rfl, rfl, g68, h70, -⟩
        have hS71 := hS59.tr g68 (by decide +kernel) (by decide +kernel)
        have c72 : I65 a1 9 = v3 := (g68.cell ta1 (by decide +kernel)).trans c60
        have c73 : I65 a22 0 = v35 := (g68.cell ta22 (by decide +kernel)).trans c61
        refine q_if_ne 89 dX7_readTurner_84 (by decide) (fun h74 => ?_) (fun h74 => ?_)
        · skip
          refine tr_aload_n dX7_readTurner_89 rfl ?_
          refine tr_aload_n dX7_readTurner_90 rfl ?_
          obtain ⟨v75, c76⟩ : ∃ v, I65 a0 8 = v := ⟨_, rfl⟩
          have b77 := iv7_8 hS71.1 ta0 c76
          refine q_getI dX7_readTurner_91 fl7_121 (kR7 hS71.1 ta0) c76 ?_
          refine q_putI dX7_readTurner_94 fl7_254 (kR4 hS71.1 ta22) (Or.inl rfl) hS71 ta22 (iokF rfl) rfl (by decide +kernel) ?_
          intro I78 hS79 e80 f81
          have c82 : I78 a1 9 = v3 := (f81 _ _ (fun q => absurd q.2 (by decide))).trans c72
          have c83 : I78 a22 0 = v35 := (f81 _ _ (fun q => absurd q.2 (by decide))).trans c73
          have c84 : I78 a0 8 = v75 := (f81 _ _ (fun q => absurd q.2 (by decide))).trans c76
          refine tr_aload_n dX7_readTurner_97 rfl ?_
          refine tr_aload_n dX7_readTurner_98 rfl ?_
          obtain ⟨v85, c86⟩ : ∃ v, I78 a0 9 = v := ⟨_, rfl⟩
          have b87 := iv7_9 hS79.1 ta0 c86
          refine q_getI dX7_readTurner_99 fl7_129 (kR7 hS79.1 ta0) c86 ?_
          refine q_putI dX7_readTurner_102 fl7_255 (kR4 hS79.1 ta22) (Or.inl rfl) hS79 ta22 (iokF rfl) rfl (by decide +kernel) ?_
          intro I88 hS89 e90 f91
          have c92 : I88 a1 9 = v3 := (f91 _ _ (fun q => absurd q.2 (by decide))).trans c82
          have c93 : I88 a22 0 = v35 := (f91 _ _ (fun q => absurd q.2 (by decide))).trans c83
          have c94 : I88 a0 8 = v75 := (f91 _ _ (fun q => absurd q.2 (by decide))).trans c84
          have c95 : I88 a22 1 = v75 := (f91 _ _ (fun q => absurd q.2 (by decide))).trans e80
          have c96 : I88 a0 9 = v85 := (f91 _ _ (fun q => absurd q.2 (by decide))).trans c86
          refine tr_aload_n dX7_readTurner_105 rfl ?_
          refine tr_ldcwS dX7_readTurner_106 ld7_256 ?_
          refine q_callVi hE (M' := mX7_takeWord) (as := [_]) dX7_readTurner_109 lk7_126 inX7_takeWord seX7_takeWord myX7_takeWord (by decide) ⟨by decide, by decide⟩ rfl (kR7 hS89.1 ta0) (Nat.le_of_ble_eq_true rfl) rfl rfl (by decide) (by decide) (k_X7_takeWord hS89.1 ta0 (by decide)) ?_
          rintro v101 cn' K' N' I97 R98 L99 ⟨rfl, rfl, rfl, rfl, g100, h102, -⟩
          have hS103 := hS89.tr g100 (by decide +kernel) (by decide +kernel)
          have c104 : I97 a1 9 = v3 := (g100.cell ta1 (by decide +kernel)).trans c92
          have c105 : I97 a22 0 = v35 := (g100.cell ta22 (by decide +kernel)).trans c93
          have c106 : I97 a0 8 = v75 := (g100.cell ta0 (by decide +kernel)).trans c94
          have c107 : I97 a22 1 = v75 := (g100.cell ta22 (by decide +kernel)).trans c95
          have c108 : I97 a0 9 = v85 := (g100.cell ta0 (by decide +kernel)).trans c96
          have c109 : I97 a22 2 = v85 := (g100.cell ta22 (by decide +kernel)).trans e90
          refine q_if_eq 125 dX7_readTurner_112 (by decide) (fun h110 => ?_) (fun h110 => ?_)
          · skip
            refine q_iconst dX7_readTurner_125 (by decide) ?_
            intro v111 h112
            exact tr_zret hZ dX7_readTurner_126 rfl (ti_b01 (by omega) (by omega)) (by decide) (by decide) ⟨v111, rfl, rfl, rfl, rfl, rfl, hS103, (by omega), trivial⟩
          · skip
            refine tr_aload_n dX7_readTurner_115 rfl ?_
            refine q_iconst dX7_readTurner_116 (by decide) ?_
            intro v113 h114
            refine q_bipush dX7_readTurner_117 (by decide +kernel) ?_
            intro v115 h116
            refine q_callVi hE (M' := mX7_takeWhole) (as := [_, _]) dX7_readTurner_119 lk7_115 inX7_takeWhole seX7_takeWhole myX7_takeWhole (by decide) ⟨by decide, by decide⟩ rfl (kR7 hS103.1 ta0) (Nat.le_of_ble_eq_true rfl) rfl rfl (by decide) (by decide) (k_X7_takeWhole hS103.1 ta0 (by omega) (by omega)) ?_
            rintro v121 cn' K' N' I117 R118 L119 ⟨rfl, rfl, rfl, rfl, g120, h122, p123, -⟩
            have hS124 := hS103.tr g120 (by decide +kernel) (by decide +kernel)
            have c125 : I117 a1 9 = v3 := (g120.cell ta1 (by decide +kernel)).trans c104
            have c126 : I117 a22 0 = v35 := (g120.cell ta22 (by decide +kernel)).trans c105
            have c127 : I117 a0 8 = v75 := (g120.cell ta0 (by decide +kernel)).trans c106
            have c128 : I117 a22 1 = v75 := (g120.cell ta22 (by decide +kernel)).trans c107
            have c129 : I117 a0 9 = v85 := (g120.cell ta0 (by decide +kernel)).trans c108
            have c130 : I117 a22 2 = v85 := (g120.cell ta22 (by decide +kernel)).trans c109
            obtain ⟨v131, c132⟩ : ∃ v, I117 a0 7 = v := ⟨_, rfl⟩
            have b133 := iv7_7 hS124.1 ta0 c132
            rw [c132] at p123
            refine q_if_ne 127 dX7_readTurner_122 (by decide) (fun h134 => ?_) (fun h134 => ?_)
            · skip
              refine tr_aload_n dX7_readTurner_127 rfl ?_
              refine tr_aload_n dX7_readTurner_128 rfl ?_
              refine q_getI dX7_readTurner_129 fl7_109 (kR7 hS124.1 ta0) c132 ?_
              refine q_putI dX7_readTurner_132 fl7_258 (kR4 hS124.1 ta22) (Or.inl rfl) hS124 ta22 (iokF rfl) rfl (by decide +kernel) ?_
              intro I135 hS136 e137 f138
              have c139 : I135 a1 9 = v3 := (f138 _ _ (fun q => absurd q.2 (by decide))).trans c125
              have c140 : I135 a22 0 = v35 := (f138 _ _ (fun q => absurd q.2 (by decide))).trans c126
              have c141 : I135 a0 8 = v75 := (f138 _ _ (fun q => absurd q.2 (by decide))).trans c127
              have c142 : I135 a22 1 = v75 := (f138 _ _ (fun q => absurd q.2 (by decide))).trans c128
              have c143 : I135 a0 9 = v85 := (f138 _ _ (fun q => absurd q.2 (by decide))).trans c129
              have c144 : I135 a22 2 = v85 := (f138 _ _ (fun q => absurd q.2 (by decide))).trans c130
              have c145 : I135 a0 7 = v131 := (f138 _ _ (fun q => absurd q.2 (by decide))).trans c132
              refine tr_aload_n dX7_readTurner_135 rfl ?_
              refine tr_ldcwS dX7_readTurner_136 ld7_260 ?_
              refine q_callVi hE (M' := mX7_takeWord) (as := [_]) dX7_readTurner_139 lk7_126 inX7_takeWord seX7_takeWord myX7_takeWord (by decide) ⟨by decide, by decide⟩ rfl (kR7 hS136.1 ta0) (Nat.le_of_ble_eq_true rfl) rfl rfl (by decide) (by decide) (k_X7_takeWord hS136.1 ta0 (by decide)) ?_
              rintro v150 cn' K' N' I146 R147 L148 ⟨rfl, rfl, rfl, rfl, g149, h151, -⟩
              have hS152 := hS136.tr g149 (by decide +kernel) (by decide +kernel)
              have c153 : I146 a1 9 = v3 := (g149.cell ta1 (by decide +kernel)).trans c139
              have c154 : I146 a22 0 = v35 := (g149.cell ta22 (by decide +kernel)).trans c140
              have c155 : I146 a0 8 = v75 := (g149.cell ta0 (by decide +kernel)).trans c141
              have c156 : I146 a22 1 = v75 := (g149.cell ta22 (by decide +kernel)).trans c142
              have c157 : I146 a0 9 = v85 := (g149.cell ta0 (by decide +kernel)).trans c143
              have c158 : I146 a22 2 = v85 := (g149.cell ta22 (by decide +kernel)).trans c144
              have c159 : I146 a0 7 = v131 := (g149.cell ta0 (by decide +kernel)).trans c145
              have c160 : I146 a22 3 = v131 := (g149.cell ta22 (by decide +kernel)).trans e137
              refine q_if_eq 155 dX7_readTurner_142 (by decide) (fun h161 => ?_) (fun h161 => ?_)
              · skip
                refine q_iconst dX7_readTurner_155 (by decide) ?_
                intro v162 h163
                exact tr_zret hZ dX7_readTurner_156 rfl (ti_b01 (by omega) (by omega)) (by decide) (by decide) ⟨v162, rfl, rfl, rfl, rfl, rfl, hS152, (by omega), trivial⟩
              · skip
                refine tr_aload_n dX7_readTurner_145 rfl ?_
                refine q_iconst dX7_readTurner_146 (by decide) ?_
                intro v164 h165
                refine q_bipush dX7_readTurner_147 (by decide +kernel) ?_
                intro v166 h167
                refine q_callVi hE (M' := mX7_takeWhole) (as := [_, _]) dX7_readTurner_149 lk7_115 inX7_takeWhole seX7_takeWhole myX7_takeWhole (by decide) ⟨by decide, by decide⟩ rfl (kR7 hS152.1 ta0) (Nat.le_of_ble_eq_true rfl) rfl rfl (by decide) (by decide) (k_X7_takeWhole hS152.1 ta0 (by omega) (by omega)) ?_
                rintro v172 cn' K' N' I168 R169 L170 ⟨rfl, rfl, rfl, rfl, g171, h173, p174, -⟩
                have hS175 := hS152.tr g171 (by decide +kernel) (by decide +kernel)
                have c176 : I168 a1 9 = v3 := (g171.cell ta1 (by decide +kernel)).trans c153
                have c177 : I168 a22 0 = v35 := (g171.cell ta22 (by decide +kernel)).trans c154
                have c178 : I168 a0 8 = v75 := (g171.cell ta0 (by decide +kernel)).trans c155
                have c179 : I168 a22 1 = v75 := (g171.cell ta22 (by decide +kernel)).trans c156
                have c180 : I168 a0 9 = v85 := (g171.cell ta0 (by decide +kernel)).trans c157
                have c181 : I168 a22 2 = v85 := (g171.cell ta22 (by decide +kernel)).trans c158
                have c182 : I168 a22 3 = v131 := (g171.cell ta22 (by decide +kernel)).trans c160
                obtain ⟨v183, c184⟩ : ∃ v, I168 a0 7 = v := ⟨_, rfl⟩
                have b185 := iv7_7 hS175.1 ta0 c184
                rw [c184] at p174
                refine q_if_ne 157 dX7_readTurner_152 (by decide) (fun h186 => ?_) (fun h186 => ?_)
                · skip
                  refine tr_aload_n dX7_readTurner_157 rfl ?_
                  refine tr_aload_n dX7_readTurner_158 rfl ?_
                  refine q_getI dX7_readTurner_159 fl7_109 (kR7 hS175.1 ta0) c184 ?_
                  refine q_putI dX7_readTurner_162 fl7_262 (kR4 hS175.1 ta22) (Or.inl rfl) hS175 ta22 (iokF rfl) rfl (by decide +kernel) ?_
                  intro I187 hS188 e189 f190
                  have c191 : I187 a1 9 = v3 := (f190 _ _ (fun q => absurd q.2 (by decide))).trans c176
                  have c192 : I187 a22 0 = v35 := (f190 _ _ (fun q => absurd q.2 (by decide))).trans c177
                  have c193 : I187 a0 8 = v75 := (f190 _ _ (fun q => absurd q.2 (by decide))).trans c178
                  have c194 : I187 a22 1 = v75 := (f190 _ _ (fun q => absurd q.2 (by decide))).trans c179
                  have c195 : I187 a0 9 = v85 := (f190 _ _ (fun q => absurd q.2 (by decide))).trans c180
                  have c196 : I187 a22 2 = v85 := (f190 _ _ (fun q => absurd q.2 (by decide))).trans c181
                  have c197 : I187 a22 3 = v131 := (f190 _ _ (fun q => absurd q.2 (by decide))).trans c182
                  have c198 : I187 a0 7 = v183 := (f190 _ _ (fun q => absurd q.2 (by decide))).trans c184
                  refine tr_aload_n dX7_readTurner_165 rfl ?_
                  refine tr_getR dX7_readTurner_166 fl7_22 (kR7 hS188.1 ta0) d2 ?_
                  refine tr_dup dX7_readTurner_169 rfl ?_
                  refine q_getI dX7_readTurner_170 fl7_156 (kR2 hS188.1 ta1) c191 ?_
                  refine q_iconst dX7_readTurner_173 (by decide) ?_
                  intro v199 h200
                  refine q_iaddE dX7_readTurner_174 (by intros; omega) ?_
                  intro v201 h202
                  refine q_putI dX7_readTurner_175 fl7_156 (kR2 hS188.1 ta1) (Or.inl rfl) hS188 ta1 (by show (0 : Int) ≤ v201.toInt ∧ v201.toInt ≤ (5 : Int); omega) rfl (by decide +kernel) ?_
                  intro I203 hS204 e205 f206
                  have c207 : I203 a22 0 = v35 := (f206 _ _ (fun q => absurd q.2 (by decide))).trans c192
                  have c208 : I203 a0 8 = v75 := (f206 _ _ (fun q => absurd q.2 (by decide))).trans c193
                  have c209 : I203 a22 1 = v75 := (f206 _ _ (fun q => absurd q.2 (by decide))).trans c194
                  have c210 : I203 a0 9 = v85 := (f206 _ _ (fun q => by have z := ta0; rw [q.1, ta1] at z; exact absurd z (by decide))).trans c195
                  have c211 : I203 a22 2 = v85 := (f206 _ _ (fun q => absurd q.2 (by decide))).trans c196
                  have c212 : I203 a22 3 = v131 := (f206 _ _ (fun q => absurd q.2 (by decide))).trans c197
                  have c213 : I203 a0 7 = v183 := (f206 _ _ (fun q => absurd q.2 (by decide))).trans c198
                  have c214 : I203 a22 4 = v183 := (f206 _ _ (fun q => absurd q.2 (by decide))).trans e189
                  refine tr_aload_n dX7_readTurner_178 rfl ?_
                  refine tr_ldcS dX7_readTurner_179 ld7_204 ?_
                  refine q_callVi hE (M' := mX7_takeWord) (as := [_]) dX7_readTurner_181 lk7_126 inX7_takeWord seX7_takeWord myX7_takeWord (by decide) ⟨by decide, by decide⟩ rfl (kR7 hS204.1 ta0) (Nat.le_of_ble_eq_true rfl) rfl rfl (by decide) (by decide) (k_X7_takeWord hS204.1 ta0 (by decide)) ?_
                  rintro v219 cn' K' N' I215 R216 L217 ⟨rfl, rfl, rfl, rfl, g218, h220, -⟩
                  have hS221 := hS204.tr g218 (by decide +kernel) (by decide +kernel)
                  have c222 : I215 a22 0 = v35 := (g218.cell ta22 (by decide +kernel)).trans c207
                  have c223 : I215 a0 8 = v75 := (g218.cell ta0 (by decide +kernel)).trans c208
                  have c224 : I215 a22 1 = v75 := (g218.cell ta22 (by decide +kernel)).trans c209
                  have c225 : I215 a0 9 = v85 := (g218.cell ta0 (by decide +kernel)).trans c210
                  have c226 : I215 a22 2 = v85 := (g218.cell ta22 (by decide +kernel)).trans c211
                  have c227 : I215 a22 3 = v131 := (g218.cell ta22 (by decide +kernel)).trans c212
                  have c228 : I215 a0 7 = v183 := (g218.cell ta0 (by decide +kernel)).trans c213
                  have c229 : I215 a22 4 = v183 := (g218.cell ta22 (by decide +kernel)).trans c214
                  have c230 : I215 a1 9 = v201 := (g218.cell ta1 (by decide +kernel)).trans e205
                  refine q_if_eq 199 dX7_readTurner_184 (by decide) (fun h231 => ?_) (fun h231 => ?_)
                  · skip
                    refine q_iconst dX7_readTurner_199 (by decide) ?_
                    intro v232 h233
                    exact tr_zret hZ dX7_readTurner_200 rfl (ti_b01 (by omega) (by omega)) (by decide) (by decide) ⟨v232, rfl, rfl, rfl, rfl, rfl, hS221, (by omega), trivial⟩
                  · skip
                    refine tr_aload_n dX7_readTurner_187 rfl ?_
                    refine tr_aload_n dX7_readTurner_188 rfl ?_
                    refine q_callVi hE (M' := mX7_readHuts) (as := [_]) dX7_readTurner_189 lk7_264 inX7_readHuts seX7_readHuts myX7_readHuts (by decide) ⟨by decide, by decide⟩ rfl (kR7 hS221.1 ta0) (Nat.le_of_ble_eq_true rfl) rfl rfl (by decide) (by decide) (k_X7_readHuts hS221.1 ta0 ta22) ?_
                    rintro v238 cn' K' N' I234 R235 L236 ⟨rfl, rfl, rfl, rfl, g237, h239, -⟩
                    have hS240 := hS221.tr g237 (by decide +kernel) (by decide +kernel)
                    have c241 : I234 a22 0 = v35 := (g237.cell ta22 (by decide +kernel)).trans c222
                    have c242 : I234 a0 8 = v75 := (g237.cell ta0 (by decide +kernel)).trans c223
                    have c243 : I234 a22 1 = v75 := (g237.cell ta22 (by decide +kernel)).trans c224
                    have c244 : I234 a0 9 = v85 := (g237.cell ta0 (by decide +kernel)).trans c225
                    have c245 : I234 a22 2 = v85 := (g237.cell ta22 (by decide +kernel)).trans c226
                    have c246 : I234 a22 3 = v131 := (g237.cell ta22 (by decide +kernel)).trans c227
                    have c247 : I234 a0 7 = v183 := (g237.cell ta0 (by decide +kernel)).trans c228
                    have c248 : I234 a22 4 = v183 := (g237.cell ta22 (by decide +kernel)).trans c229
                    have c249 : I234 a1 9 = v201 := (g237.cell ta1 (by decide +kernel)).trans c230
                    refine q_if_eq 199 dX7_readTurner_192 (by decide) (fun h250 => ?_) (fun h250 => ?_)
                    · skip
                      refine q_iconst dX7_readTurner_199 (by decide) ?_
                      intro v251 h252
                      exact tr_zret hZ dX7_readTurner_200 rfl (ti_b01 (by omega) (by omega)) (by decide) (by decide) ⟨v251, rfl, rfl, rfl, rfl, rfl, hS240, (by omega), trivial⟩
                    · skip
                      refine q_iconst dX7_readTurner_195 (by decide) ?_
                      intro v253 h254
                      refine tr_goto 200 dX7_readTurner_196 (by decide) ?_
                      exact tr_zret hZ dX7_readTurner_200 rfl (ti_b01 (by omega) (by omega)) (by decide) (by decide) ⟨v253, rfl, rfl, rfl, rfl, rfl, hS240, (by omega), trivial⟩
                · skip
                  refine q_iconst dX7_readTurner_155 (by decide) ?_
                  intro v255 h256
                  exact tr_zret hZ dX7_readTurner_156 rfl (ti_b01 (by omega) (by omega)) (by decide) (by decide) ⟨v255, rfl, rfl, rfl, rfl, rfl, hS175, (by omega), trivial⟩
            · skip
              refine q_iconst dX7_readTurner_125 (by decide) ?_
              intro v257 h258
              exact tr_zret hZ dX7_readTurner_126 rfl (ti_b01 (by omega) (by omega)) (by decide) (by decide) ⟨v257, rfl, rfl, rfl, rfl, rfl, hS124, (by omega), trivial⟩
        · skip
          refine q_iconst dX7_readTurner_87 (by decide) ?_
          intro v259 h260
          exact tr_zret hZ dX7_readTurner_88 rfl (ti_b01 (by omega) (by omega)) (by decide) (by decide) ⟨v259, rfl, rfl, rfl, rfl, rfl, hS71, (by omega), trivial⟩
    · skip
      refine tr_aload_n dX7_readTurner_61 rfl ?_
      refine q_iconst dX7_readTurner_62 (by decide) ?_
      intro v261 h262
      refine q_callVi hE (M' := mX7_fail) (as := [_]) dX7_readTurner_63 lk7_64 inX7_fail seX7_fail myX7_fail (by decide) ⟨by decide, by decide⟩ rfl (kR7 hS38.1 ta0) (Nat.le_of_ble_eq_true rfl) rfl rfl (by decide) (by decide) (k_X7_fail hS38.1 ta0) ?_
      rintro v267 cn' K' N' I263 R264 L265 ⟨rfl, rfl, rfl, rfl, rfl, g266, h268, -⟩
      have hS269 := hS38.tr g266 (by decide +kernel) (by decide +kernel)
      have c270 : I263 a1 9 = v3 := (g266.cell ta1 (by decide +kernel)).trans c41
      have c271 : I263 a22 0 = v35 := (g266.cell ta22 (by decide +kernel)).trans e39
      exact tr_zret hZ dX7_readTurner_66 rfl (ti_b01 (by omega) (by omega)) (by decide) (by decide) ⟨v267, rfl, rfl, rfl, rfl, rfl, hS269, (by omega), trivial⟩
  · skip
    refine q_iconst dX7_readTurner_7 (by decide) ?_
    intro v272 h273
    exact tr_zret hZ dX7_readTurner_8 rfl (ti_b01 (by omega) (by omega)) (by decide) (by decide) ⟨v272, rfl, rfl, rfl, rfl, rfl, hS13, (by omega), trivial⟩
def wi_X7_readCall : List Nat := [139, 320, 321, 322, 323, 450, 451, 452, 454, 455, 463, 464]
def wr_X7_readCall : List Nat := []
set_option maxHeartbeats 4000000 in
theorem k_X7_readCall {l : Launch} {T : Nat → Nat} {cn : Nat} {K N : Nat → Nat} {I0 : cz_I} {R0 : cz_R} {L0 : cz_L} {d : Int} (hW0 : Wf T cn K N I0 R0 d) {a0 : Nat} (ta0 : T a0 = 7) (pre0 : ∀ b1, R0 a0 10 = some b1 → (I0 b1 11).toInt ≤ 5) : ConE l mX7_readCall [.ref a0] cn K N I0 R0 L0 (ca_i (fun v cn' K' N' I' R' L' => cn = cn' ∧ K = K' ∧ N = N' ∧ R0 = R' ∧ St T cn K N d wi_X7_readCall wr_X7_readCall I0 R0 I' R0 ∧ (0 ≤ v.toInt ∧ v.toInt ≤ 1) ∧ True)) := by
  refine ConE.of (by decide +kernel) rfl (Nat.le_of_ble_eq_true rfl) rfl (fun X hX hZ hE => ?_)
  subst hX
  have hS0 : St T cn K N d wi_X7_readCall wr_X7_readCall I0 R0 I0 R0 := St.rf0 hW0
  obtain ⟨a1, d2, ta1⟩ := rf7_10 hW0 ta0
  obtain ⟨v3, c4⟩ : ∃ v, I0 a1 11 = v := ⟨_, rfl⟩
  have b5 := iv2_11 hS0.1 ta1 c4
  have p6 := pre0 _ d2
  rw [c4] at p6
  refine tr_aload_n dX7_readCall_0 rfl ?_
  refine q_callVi hE (M' := mX7_seesName) (as := []) dX7_readCall_1 lk7_279 inX7_seesName seX7_seesName myX7_seesName (by decide) ⟨by decide, by decide⟩ rfl (kR7 hS0.1 ta0) (Nat.le_of_ble_eq_true rfl) rfl rfl (by decide) (by decide) (k_X7_seesName hS0.1 ta0) ?_
  rintro v11 cn' K' N' I7 R8 L9 ⟨rfl, rfl, rfl, rfl, rfl, rfl, h12, -⟩
  refine q_if_ne 13 dX7_readCall_4 (by decide) (fun h13 => ?_) (fun h13 => ?_)
  · skip
    refine tr_aload_n dX7_readCall_13 rfl ?_
    refine q_callVi hE (M' := mX7_namedTurner) (as := []) dX7_readCall_14 lk7_282 inX7_namedTurner seX7_namedTurner myX7_namedTurner (by decide) ⟨by decide, by decide⟩ rfl (kR7 hS0.1 ta0) (Nat.le_of_ble_eq_true rfl) rfl rfl (by decide) (by decide) (k_X7_namedTurner hS0.1 ta0) ?_
    rintro v18 cn' K' N' I14 R15 L16 ⟨rfl, rfl, rfl, rfl, rfl, rfl, h19, -⟩
    refine tr_istore_n dX7_readCall_17 (by decide) (by decide) ?_
    refine tr_iload_n dX7_readCall_18 rfl ?_
    refine q_iconst dX7_readCall_19 (by decide) ?_
    intro v20 h21
    refine q_icmp_ne 29 dX7_readCall_20 (by decide) (fun h22 => ?_) (fun h22 => ?_)
    · skip
      refine tr_aload_n dX7_readCall_29 rfl ?_
      refine q_callVv hE (M' := mX7_step) (as := []) dX7_readCall_30 lk7_51 inX7_step seX7_step myX7_step (by decide) ⟨by decide, by decide⟩ rfl (kR7 hS0.1 ta0) (Nat.le_of_ble_eq_true rfl) rfl rfl (by decide) (by decide) (k_X7_step hS0.1 ta0) ?_
      rintro cn' K' N' I23 R24 L25 ⟨rfl, rfl, rfl, rfl, g26, -⟩
      have hS28 := hS0.tr g26 (by decide +kernel) (by decide +kernel)
      have c29 : I23 a1 11 = v3 := (g26.cell ta1 (by decide +kernel)).trans c4
      refine tr_aload_n dX7_readCall_33 rfl ?_
      refine tr_getR dX7_readCall_34 fl7_22 (kR7 hS28.1 ta0) d2 ?_
      obtain ⟨a30, d31, ta30⟩ := rf2_12 hW0 ta1
      refine tr_getR dX7_readCall_37 fl7_285 (kR2 hS28.1 ta1) d31 ?_
      refine tr_aload_n dX7_readCall_40 rfl ?_
      refine tr_getR dX7_readCall_41 fl7_22 (kR7 hS28.1 ta0) d2 ?_
      refine q_getI dX7_readCall_44 fl7_159 (kR2 hS28.1 ta1) c29 ?_
      obtain ⟨a32, d33, ta32⟩ := rf22 hS28.1 ta30 (j := v3.toNatClampNeg) (ti_lt (by omega) (by omega))
      refine tr_aald dX7_readCall_47 (kR22 hS28.1 ta30) (by decide) (by decide) (ti_in (nR22 hS28.1 ta30) (by omega) (by omega)) d33 ?_
      refine tr_astore_n dX7_readCall_48 (by decide) (by decide) ?_
      refine tr_aload_n dX7_readCall_49 rfl ?_
      refine tr_iload_n dX7_readCall_50 rfl ?_
      refine q_putI dX7_readCall_51 fl7_289 (kR5 hS28.1 ta32) (Or.inl rfl) hS28 ta32 (iokF rfl) rfl (by decide +kernel) ?_
      intro I34 hS35 e36 f37
      have c38 : I34 a1 11 = v3 := (f37 _ _ (fun q => absurd q.2 (by decide))).trans c29
      refine tr_aload_n dX7_readCall_54 rfl ?_
      refine tr_ldcwS dX7_readCall_55 ld7_293 ?_
      refine q_callVi hE (M' := mX7_takeWord) (as := [_]) dX7_readCall_58 lk7_126 inX7_takeWord seX7_takeWord myX7_takeWord (by decide) ⟨by decide, by decide⟩ rfl (kR7 hS35.1 ta0) (Nat.le_of_ble_eq_true rfl) rfl rfl (by decide) (by decide) (k_X7_takeWord hS35.1 ta0 (by decide)) ?_
      rintro v43 cn' K' N' I39 R40 L41 ⟨rfl, rfl, rfl, rfl, g42, h44, -⟩
      have hS45 := hS35.tr g42 (by decide +kernel) (by decide +kernel)
      have c46 : I39 a1 11 = v3 := (g42.cell ta1 (by decide +kernel)).trans c38
      have c47 : I39 a32 0 = v18 := (g42.cell ta32 (by decide +kernel)).trans e36
      refine q_if_eq 81 dX7_readCall_61 (by decide) (fun h48 => ?_) (fun h48 => ?_)
      · skip
        refine q_iconst dX7_readCall_81 (by decide) ?_
        intro v49 h50
        exact tr_zret hZ dX7_readCall_82 rfl (ti_b01 (by omega) (by omega)) (by decide) (by decide) ⟨v49, rfl, rfl, rfl, rfl, rfl, hS45, (by omega), trivial⟩
      · skip
        refine tr_aload_n dX7_readCall_64 rfl ?_
        refine q_iconst dX7_readCall_65 (by decide) ?_
        intro v51 h52
        refine tr_aload_n dX7_readCall_66 rfl ?_
        refine tr_getR dX7_readCall_67 fl7_22 (kR7 hS45.1 ta0) d2 ?_
        obtain ⟨v53, c54⟩ : ∃ v, I0 a1 0 = v := ⟨_, rfl⟩
        have b55 := iv2_0 hW0 ta1 c54
        refine q_getI dX7_readCall_70 fl7_118 (kR2 hS45.1 ta1) ((hS45.cell ta1 (by decide +kernel)).trans c54) ?_
        refine q_iconst dX7_readCall_73 (by decide) ?_
        intro v56 h57
        refine q_isubE dX7_readCall_74 (by intros; omega) ?_
        intro v58 h59
        refine q_callVi hE (M' := mX7_takeWhole) (as := [_, _]) dX7_readCall_75 lk7_115 inX7_takeWhole seX7_takeWhole myX7_takeWhole (by decide) ⟨by decide, by decide⟩ rfl (kR7 hS45.1 ta0) (Nat.le_of_ble_eq_true rfl) rfl rfl (by decide) (by decide) (k_X7_takeWhole hS45.1 ta0 (by omega) (by omega)) ?_
        rintro v64 cn' K' N' I60 R61 L62 ⟨rfl, rfl, rfl, rfl, g63, h65, p66, -⟩
        have hS67 := hS45.tr g63 (by decide +kernel) (by decide +kernel)
        have c68 : I60 a1 11 = v3 := (g63.cell ta1 (by decide +kernel)).trans c46
        have c69 : I60 a32 0 = v18 := (g63.cell ta32 (by decide +kernel)).trans c47
        obtain ⟨v70, c71⟩ : ∃ v, I60 a0 7 = v := ⟨_, rfl⟩
        have b72 := iv7_7 hS67.1 ta0 c71
        rw [c71] at p66
        refine q_if_ne 83 dX7_readCall_78 (by decide) (fun h73 => ?_) (fun h73 => ?_)
        · skip
          refine tr_aload_n dX7_readCall_83 rfl ?_
          refine tr_aload_n dX7_readCall_84 rfl ?_
          refine q_getI dX7_readCall_85 fl7_109 (kR7 hS67.1 ta0) c71 ?_
          refine q_putI dX7_readCall_88 fl7_295 (kR5 hS67.1 ta32) (Or.inl rfl) hS67 ta32 (iokF rfl) rfl (by decide +kernel) ?_
          intro I74 hS75 e76 f77
          have c78 : I74 a1 11 = v3 := (f77 _ _ (fun q => absurd q.2 (by decide))).trans c68
          have c79 : I74 a32 0 = v18 := (f77 _ _ (fun q => absurd q.2 (by decide))).trans c69
          have c80 : I74 a0 7 = v70 := (f77 _ _ (fun q => absurd q.2 (by decide))).trans c71
          refine tr_aload_n dX7_readCall_91 rfl ?_
          refine tr_ldcwS dX7_readCall_92 ld7_297 ?_
          refine q_callVi hE (M' := mX7_takeWord) (as := [_]) dX7_readCall_95 lk7_126 inX7_takeWord seX7_takeWord myX7_takeWord (by decide) ⟨by decide, by decide⟩ rfl (kR7 hS75.1 ta0) (Nat.le_of_ble_eq_true rfl) rfl rfl (by decide) (by decide) (k_X7_takeWord hS75.1 ta0 (by decide)) ?_
          rintro v85 cn' K' N' I81 R82 L83 ⟨rfl, rfl, rfl, rfl, g84, h86, -⟩
          have hS87 := hS75.tr g84 (by decide +kernel) (by decide +kernel)
          have c88 : I81 a1 11 = v3 := (g84.cell ta1 (by decide +kernel)).trans c78
          have c89 : I81 a32 0 = v18 := (g84.cell ta32 (by decide +kernel)).trans c79
          have c90 : I81 a0 7 = v70 := (g84.cell ta0 (by decide +kernel)).trans c80
          have c91 : I81 a32 1 = v70 := (g84.cell ta32 (by decide +kernel)).trans e76
          refine q_if_eq 111 dX7_readCall_98 (by decide) (fun h92 => ?_) (fun h92 => ?_)
          · skip
            refine q_iconst dX7_readCall_111 (by decide) ?_
            intro v93 h94
            exact tr_zret hZ dX7_readCall_112 rfl (ti_b01 (by omega) (by omega)) (by decide) (by decide) ⟨v93, rfl, rfl, rfl, rfl, rfl, hS87, (by omega), trivial⟩
          · skip
            refine tr_aload_n dX7_readCall_101 rfl ?_
            refine q_iconst dX7_readCall_102 (by decide) ?_
            intro v95 h96
            refine q_bipush dX7_readCall_103 (by decide +kernel) ?_
            intro v97 h98
            refine q_callVi hE (M' := mX7_takeWhole) (as := [_, _]) dX7_readCall_105 lk7_115 inX7_takeWhole seX7_takeWhole myX7_takeWhole (by decide) ⟨by decide, by decide⟩ rfl (kR7 hS87.1 ta0) (Nat.le_of_ble_eq_true rfl) rfl rfl (by decide) (by decide) (k_X7_takeWhole hS87.1 ta0 (by omega) (by omega)) ?_
            rintro v103 cn' K' N' I99 R100 L101 ⟨rfl, rfl, rfl, rfl, g102, h104, p105, -⟩
            have hS106 := hS87.tr g102 (by decide +kernel) (by decide +kernel)
            have c107 : I99 a1 11 = v3 := (g102.cell ta1 (by decide +kernel)).trans c88
            have c108 : I99 a32 0 = v18 := (g102.cell ta32 (by decide +kernel)).trans c89
            have c109 : I99 a32 1 = v70 := (g102.cell ta32 (by decide +kernel)).trans c91
            obtain ⟨v110, c111⟩ : ∃ v, I99 a0 7 = v := ⟨_, rfl⟩
            have b112 := iv7_7 hS106.1 ta0 c111
            rw [c111] at p105
            refine q_if_ne 113 dX7_readCall_108 (by decide) (fun h113 => ?_) (fun h113 => ?_)
            · skip
              refine tr_aload_n dX7_readCall_113 rfl ?_
              refine tr_aload_n dX7_readCall_114 rfl ?_
              refine q_getI dX7_readCall_115 fl7_109 (kR7 hS106.1 ta0) c111 ?_
              refine q_putI dX7_readCall_118 fl7_299 (kR5 hS106.1 ta32) (Or.inl rfl) hS106 ta32 (iokF rfl) rfl (by decide +kernel) ?_
              intro I114 hS115 e116 f117
              have c118 : I114 a1 11 = v3 := (f117 _ _ (fun q => absurd q.2 (by decide))).trans c107
              have c119 : I114 a32 0 = v18 := (f117 _ _ (fun q => absurd q.2 (by decide))).trans c108
              have c120 : I114 a32 1 = v70 := (f117 _ _ (fun q => absurd q.2 (by decide))).trans c109
              have c121 : I114 a0 7 = v110 := (f117 _ _ (fun q => absurd q.2 (by decide))).trans c111
              refine tr_aload_n dX7_readCall_121 rfl ?_
              refine tr_ldcwS dX7_readCall_122 ld7_302 ?_
              refine q_callVi hE (M' := mX7_takeWord) (as := [_]) dX7_readCall_125 lk7_126 inX7_takeWord seX7_takeWord myX7_takeWord (by decide) ⟨by decide, by decide⟩ rfl (kR7 hS115.1 ta0) (Nat.le_of_ble_eq_true rfl) rfl rfl (by decide) (by decide) (k_X7_takeWord hS115.1 ta0 (by decide)) ?_
              rintro v126 cn' K' N' I122 R123 L124 ⟨rfl, rfl, rfl, rfl, g125, h127, -⟩
              have hS128 := hS115.tr g125 (by decide +kernel) (by decide +kernel)
              have c129 : I122 a1 11 = v3 := (g125.cell ta1 (by decide +kernel)).trans c118
              have c130 : I122 a32 0 = v18 := (g125.cell ta32 (by decide +kernel)).trans c119
              have c131 : I122 a32 1 = v70 := (g125.cell ta32 (by decide +kernel)).trans c120
              have c132 : I122 a0 7 = v110 := (g125.cell ta0 (by decide +kernel)).trans c121
              have c133 : I122 a32 2 = v110 := (g125.cell ta32 (by decide +kernel)).trans e116
              refine q_if_eq 141 dX7_readCall_128 (by decide) (fun h134 => ?_) (fun h134 => ?_)
              · skip
                refine q_iconst dX7_readCall_141 (by decide) ?_
                intro v135 h136
                exact tr_zret hZ dX7_readCall_142 rfl (ti_b01 (by omega) (by omega)) (by decide) (by decide) ⟨v135, rfl, rfl, rfl, rfl, rfl, hS128, (by omega), trivial⟩
              · skip
                refine tr_aload_n dX7_readCall_131 rfl ?_
                refine q_iconst dX7_readCall_132 (by decide) ?_
                intro v137 h138
                refine q_bipush dX7_readCall_133 (by decide +kernel) ?_
                intro v139 h140
                refine q_callVi hE (M' := mX7_takeWhole) (as := [_, _]) dX7_readCall_135 lk7_115 inX7_takeWhole seX7_takeWhole myX7_takeWhole (by decide) ⟨by decide, by decide⟩ rfl (kR7 hS128.1 ta0) (Nat.le_of_ble_eq_true rfl) rfl rfl (by decide) (by decide) (k_X7_takeWhole hS128.1 ta0 (by omega) (by omega)) ?_
                rintro v145 cn' K' N' I141 R142 L143 ⟨rfl, rfl, rfl, rfl, g144, h146, p147, -⟩
                have hS148 := hS128.tr g144 (by decide +kernel) (by decide +kernel)
                have c149 : I141 a1 11 = v3 := (g144.cell ta1 (by decide +kernel)).trans c129
                have c150 : I141 a32 0 = v18 := (g144.cell ta32 (by decide +kernel)).trans c130
                have c151 : I141 a32 1 = v70 := (g144.cell ta32 (by decide +kernel)).trans c131
                have c152 : I141 a32 2 = v110 := (g144.cell ta32 (by decide +kernel)).trans c133
                obtain ⟨v153, c154⟩ : ∃ v, I141 a0 7 = v := ⟨_, rfl⟩
                have b155 := iv7_7 hS148.1 ta0 c154
                rw [c154] at p147
                refine q_if_ne 143 dX7_readCall_138 (by decide) (fun h156 => ?_) (fun h156 => ?_)
                · skip
                  refine tr_aload_n dX7_readCall_143 rfl ?_
                  refine tr_aload_n dX7_readCall_144 rfl ?_
                  refine q_getI dX7_readCall_145 fl7_109 (kR7 hS148.1 ta0) c154 ?_
                  refine q_putI dX7_readCall_148 fl7_304 (kR5 hS148.1 ta32) (Or.inl rfl) hS148 ta32 (iokF rfl) rfl (by decide +kernel) ?_
                  intro I157 hS158 e159 f160
                  have c161 : I157 a1 11 = v3 := (f160 _ _ (fun q => absurd q.2 (by decide))).trans c149
                  have c162 : I157 a32 0 = v18 := (f160 _ _ (fun q => absurd q.2 (by decide))).trans c150
                  have c163 : I157 a32 1 = v70 := (f160 _ _ (fun q => absurd q.2 (by decide))).trans c151
                  have c164 : I157 a32 2 = v110 := (f160 _ _ (fun q => absurd q.2 (by decide))).trans c152
                  have c165 : I157 a0 7 = v153 := (f160 _ _ (fun q => absurd q.2 (by decide))).trans c154
                  refine tr_aload_n dX7_readCall_151 rfl ?_
                  refine tr_getR dX7_readCall_152 fl7_22 (kR7 hS158.1 ta0) d2 ?_
                  refine tr_dup dX7_readCall_155 rfl ?_
                  refine q_getI dX7_readCall_156 fl7_159 (kR2 hS158.1 ta1) c161 ?_
                  refine q_iconst dX7_readCall_159 (by decide) ?_
                  intro v166 h167
                  refine q_iaddE dX7_readCall_160 (by intros; omega) ?_
                  intro v168 h169
                  refine q_putI dX7_readCall_161 fl7_159 (kR2 hS158.1 ta1) (Or.inl rfl) hS158 ta1 (by show (0 : Int) ≤ v168.toInt ∧ v168.toInt ≤ (6 : Int); omega) rfl (by decide +kernel) ?_
                  intro I170 hS171 e172 f173
                  have c174 : I170 a32 0 = v18 := (f173 _ _ (fun q => absurd q.2 (by decide))).trans c162
                  have c175 : I170 a32 1 = v70 := (f173 _ _ (fun q => absurd q.2 (by decide))).trans c163
                  have c176 : I170 a32 2 = v110 := (f173 _ _ (fun q => absurd q.2 (by decide))).trans c164
                  have c177 : I170 a0 7 = v153 := (f173 _ _ (fun q => absurd q.2 (by decide))).trans c165
                  have c178 : I170 a32 3 = v153 := (f173 _ _ (fun q => absurd q.2 (by decide))).trans e159
                  refine q_iconst dX7_readCall_164 (by decide) ?_
                  intro v179 h180
                  exact tr_zret hZ dX7_readCall_165 rfl (ti_b01 (by omega) (by omega)) (by decide) (by decide) ⟨v179, rfl, rfl, rfl, rfl, rfl, hS171, (by omega), trivial⟩
                · skip
                  refine q_iconst dX7_readCall_141 (by decide) ?_
                  intro v181 h182
                  exact tr_zret hZ dX7_readCall_142 rfl (ti_b01 (by omega) (by omega)) (by decide) (by decide) ⟨v181, rfl, rfl, rfl, rfl, rfl, hS148, (by omega), trivial⟩
            · skip
              refine q_iconst dX7_readCall_111 (by decide) ?_
              intro v183 h184
              exact tr_zret hZ dX7_readCall_112 rfl (ti_b01 (by omega) (by omega)) (by decide) (by decide) ⟨v183, rfl, rfl, rfl, rfl, rfl, hS106, (by omega), trivial⟩
        · skip
          refine q_iconst dX7_readCall_81 (by decide) ?_
          intro v185 h186
          exact tr_zret hZ dX7_readCall_82 rfl (ti_b01 (by omega) (by omega)) (by decide) (by decide) ⟨v185, rfl, rfl, rfl, rfl, rfl, hS67, (by omega), trivial⟩
    · skip
      refine tr_aload_n dX7_readCall_23 rfl ?_
      refine q_iconst dX7_readCall_24 (by decide) ?_
      intro v187 h188
      refine q_callVi hE (M' := mX7_fail) (as := [_]) dX7_readCall_25 lk7_64 inX7_fail seX7_fail myX7_fail (by decide) ⟨by decide, by decide⟩ rfl (kR7 hS0.1 ta0) (Nat.le_of_ble_eq_true rfl) rfl rfl (by decide) (by decide) (k_X7_fail hS0.1 ta0) ?_
      rintro v193 cn' K' N' I189 R190 L191 ⟨rfl, rfl, rfl, rfl, rfl, g192, h194, -⟩
      have hS195 := hS0.tr g192 (by decide +kernel) (by decide +kernel)
      have c196 : I189 a1 11 = v3 := (g192.cell ta1 (by decide +kernel)).trans c4
      exact tr_zret hZ dX7_readCall_28 rfl (ti_b01 (by omega) (by omega)) (by decide) (by decide) ⟨v193, rfl, rfl, rfl, rfl, rfl, hS195, (by omega), trivial⟩
  · skip
    refine tr_aload_n dX7_readCall_7 rfl ?_
    refine q_iconst dX7_readCall_8 (by decide) ?_
    intro v197 h198
    refine q_callVi hE (M' := mX7_fail) (as := [_]) dX7_readCall_9 lk7_64 inX7_fail seX7_fail myX7_fail (by decide) ⟨by decide, by decide⟩ rfl (kR7 hS0.1 ta0) (Nat.le_of_ble_eq_true rfl) rfl rfl (by decide) (by decide) (k_X7_fail hS0.1 ta0) ?_
    rintro v203 cn' K' N' I199 R200 L201 ⟨rfl, rfl, rfl, rfl, rfl, g202, h204, -⟩
    have hS205 := hS0.tr g202 (by decide +kernel) (by decide +kernel)
    have c206 : I199 a1 11 = v3 := (g202.cell ta1 (by decide +kernel)).trans c4
    exact tr_zret hZ dX7_readCall_12 rfl (ti_b01 (by omega) (by omega)) (by decide) (by decide) ⟨v203, rfl, rfl, rfl, rfl, rfl, hS205, (by omega), trivial⟩
def wi_X7_readLine : List Nat := [128, 129, 131, 133, 135, 137, 139, 141, 192, 193, 194, 195, 256, 257, 258, 259, 260, 261, 320, 321, 322, 323, 384, 450, 451, 452, 454, 455, 456, 457, 459, 460, 463, 464, 1215, 1343, 1599]
def wr_X7_readLine : List Nat := []
set_option maxHeartbeats 4000000 in
theorem k_X7_readLine {l : Launch} {T : Nat → Nat} {cn : Nat} {K N : Nat → Nat} {I0 : cz_I} {R0 : cz_R} {L0 : cz_L} {d : Int} (hW0 : Wf T cn K N I0 R0 d) {a0 : Nat} (ta0 : T a0 = 7) : ConE l mX7_readLine [.ref a0] cn K N I0 R0 L0 (ca_i (fun v cn' K' N' I' R' L' => cn = cn' ∧ K = K' ∧ N = N' ∧ R0 = R' ∧ St T cn K N d wi_X7_readLine wr_X7_readLine I0 R0 I' R0 ∧ (0 ≤ v.toInt ∧ v.toInt ≤ 1) ∧ True)) := by
  refine ConE.of (by decide +kernel) rfl (Nat.le_of_ble_eq_true rfl) rfl (fun X hX hZ hE => ?_)
  subst hX
  have hS0 : St T cn K N d wi_X7_readLine wr_X7_readLine I0 R0 I0 R0 := St.rf0 hW0
  refine tr_aload_n dX7_readLine_0 rfl ?_
  refine q_callVi hE (M' := mX7_sortOfWord) (as := []) dX7_readLine_1 lk7_168 inX7_sortOfWord seX7_sortOfWord myX7_sortOfWord (by decide) ⟨by decide, by decide⟩ rfl (kR7 hS0.1 ta0) (Nat.le_of_ble_eq_true rfl) rfl rfl (by decide) (by decide) (k_X7_sortOfWord hS0.1 ta0) ?_
  rintro v5 cn' K' N' I1 R2 L3 ⟨rfl, rfl, rfl, rfl, rfl, rfl, h6, -⟩
  refine tr_istore_n dX7_readLine_4 (by decide) (by decide) ?_
  refine tr_iload_n dX7_readLine_5 rfl ?_
  refine q_iconst dX7_readLine_6 (by decide) ?_
  intro v7 h8
  refine q_icmp_ne 16 dX7_readLine_7 (by decide) (fun h9 => ?_) (fun h9 => ?_)
  · skip
    refine tr_aload_n dX7_readLine_16 rfl ?_
    refine tr_iload_n dX7_readLine_17 rfl ?_
    refine q_callVi hE (M' := mX7_isToldAgain) (as := [_]) dX7_readLine_18 lk7_171 inX7_isToldAgain seX7_isToldAgain myX7_isToldAgain (by decide) ⟨by decide, by decide⟩ rfl (kR7 hS0.1 ta0) (Nat.le_of_ble_eq_true rfl) rfl rfl (by decide) (by decide) (k_X7_isToldAgain hS0.1 ta0) ?_
    rintro v14 cn' K' N' I10 R11 L12 ⟨rfl, rfl, rfl, rfl, rfl, rfl, h15, -⟩
    refine q_if_eq 30 dX7_readLine_21 (by decide) (fun h16 => ?_) (fun h16 => ?_)
    · skip
      refine tr_aload_n dX7_readLine_30 rfl ?_
      refine tr_iload_n dX7_readLine_31 rfl ?_
      obtain ⟨a17, d18, ta17⟩ := rf7_10 hW0 ta0
      obtain ⟨v19, c20⟩ : ∃ v, I0 a17 5 = v := ⟨_, rfl⟩
      have b21 := iv2_5 hS0.1 ta17 c20
      obtain ⟨v22, c23⟩ : ∃ v, I0 a17 9 = v := ⟨_, rfl⟩
      have b24 := iv2_9 hS0.1 ta17 c23
      obtain ⟨v25, c26⟩ : ∃ v, I0 a17 11 = v := ⟨_, rfl⟩
      have b27 := iv2_11 hS0.1 ta17 c26
      obtain ⟨v28, c29⟩ : ∃ v, I0 a17 13 = v := ⟨_, rfl⟩
      have b30 := iv2_13 hS0.1 ta17 c29
      obtain ⟨v31, c32⟩ : ∃ v, I0 a17 3 = v := ⟨_, rfl⟩
      have b33 := iv2_3 hS0.1 ta17 c32
      refine q_callVi hE (M' := mX7_isFull) (as := [_]) dX7_readLine_32 lk7_174 inX7_isFull seX7_isFull myX7_isFull (by decide) ⟨by decide, by decide⟩ rfl (kR7 hS0.1 ta0) (Nat.le_of_ble_eq_true rfl) rfl rfl (by decide) (by decide) (k_X7_isFull hS0.1 ta0) ?_
      rintro v38 cn' K' N' I34 R35 L36 ⟨rfl, rfl, rfl, rfl, rfl, rfl, h39, p40, p41, p42, p43, p44, -⟩
      have p45 := p40 _ d18
      clear p40
      rw [c20] at p45
      have p46 := p41 _ d18
      clear p41
      rw [c23] at p46
      have p47 := p42 _ d18
      clear p42
      rw [c26] at p47
      have p48 := p43 _ d18
      clear p43
      rw [c29] at p48
      have p49 := p44 _ d18
      clear p44
      rw [c32] at p49
      refine q_if_eq 44 dX7_readLine_35 (by decide) (fun h50 => ?_) (fun h50 => ?_)
      · skip
        refine tr_iload_n dX7_readLine_44 rfl ?_
        refine q_bipush dX7_readLine_45 (by decide +kernel) ?_
        intro v51 h52
        refine q_icmp_eq 64 dX7_readLine_47 (by decide) (fun h53 => ?_) (fun h53 => ?_)
        · skip
          refine tr_aload_n dX7_readLine_64 rfl ?_
          refine q_callVv hE (M' := mX7_step) (as := []) dX7_readLine_65 lk7_51 inX7_step seX7_step myX7_step (by decide) ⟨by decide, by decide⟩ rfl (kR7 hS0.1 ta0) (Nat.le_of_ble_eq_true rfl) rfl rfl (by decide) (by decide) (k_X7_step hS0.1 ta0) ?_
          rintro cn' K' N' I54 R55 L56 ⟨rfl, rfl, rfl, rfl, g57, -⟩
          have hS59 := hS0.tr g57 (by decide +kernel) (by decide +kernel)
          have c60 : I54 a17 5 = v19 := (g57.cell ta17 (by decide +kernel)).trans c20
          have c61 : I54 a17 9 = v22 := (g57.cell ta17 (by decide +kernel)).trans c23
          have c62 : I54 a17 11 = v25 := (g57.cell ta17 (by decide +kernel)).trans c26
          have c63 : I54 a17 13 = v28 := (g57.cell ta17 (by decide +kernel)).trans c29
          have c64 : I54 a17 3 = v31 := (g57.cell ta17 (by decide +kernel)).trans c32
          refine tr_iload_n dX7_readLine_68 rfl ?_
          by_cases h65 : v5.toInt = 10
          · skip
            refine tr_tabIn (off := 39) 108 dX7_readLine_69 (by omega) (by omega) (by rw [h65]; decide +kernel) (by decide) ?_
            refine tr_aload_n dX7_readLine_108 rfl ?_
            refine q_callVi hE (M' := mX7_readAlp) (as := []) dX7_readLine_109 lk7_177 inX7_readAlp seX7_readAlp myX7_readAlp (by decide) ⟨by decide, by decide⟩ rfl (kR7 hS59.1 ta0) (Nat.le_of_ble_eq_true rfl) rfl rfl (by decide) (by decide) (k_X7_readAlp hS59.1 ta0) ?_
            rintro v70 cn' K' N' I66 R67 L68 ⟨rfl, rfl, rfl, rfl, g69, h71, -⟩
            have hS72 := hS59.tr g69 (by decide +kernel) (by decide +kernel)
            have c73 : I66 a17 5 = v19 := (g69.cell ta17 (by decide +kernel)).trans c60
            have c74 : I66 a17 9 = v22 := (g69.cell ta17 (by decide +kernel)).trans c61
            have c75 : I66 a17 11 = v25 := (g69.cell ta17 (by decide +kernel)).trans c62
            have c76 : I66 a17 13 = v28 := (g69.cell ta17 (by decide +kernel)).trans c63
            have c77 : I66 a17 3 = v31 := (g69.cell ta17 (by decide +kernel)).trans c64
            exact tr_zret hZ dX7_readLine_112 rfl (ti_b01 (by omega) (by omega)) (by decide) (by decide) ⟨v70, rfl, rfl, rfl, rfl, rfl, hS72, (by omega), trivial⟩
          · skip
            refine tr_tabOut 180 dX7_readLine_69 (by omega) (by decide) ?_
            refine tr_aload_n dX7_readLine_180 rfl ?_
            refine tr_iload_n dX7_readLine_181 rfl ?_
            refine q_callVi hE (M' := mX7_readEvent) (as := [_]) dX7_readLine_182 lk7_200 inX7_readEvent seX7_readEvent myX7_readEvent (by decide) ⟨by decide, by decide⟩ rfl (kR7 hS59.1 ta0) (Nat.le_of_ble_eq_true rfl) rfl rfl (by decide) (by decide) (k_X7_readEvent hS59.1 ta0 (fun q0 z0 => by obtain rfl := Option.some.inj ((d18).symm.trans z0); (try rw [c64]); (try omega))) ?_
            rintro v82 cn' K' N' I78 R79 L80 ⟨rfl, rfl, rfl, rfl, g81, h83, -⟩
            have hS84 := hS59.tr g81 (by decide +kernel) (by decide +kernel)
            have c85 : I78 a17 5 = v19 := (g81.cell ta17 (by decide +kernel)).trans c60
            have c86 : I78 a17 9 = v22 := (g81.cell ta17 (by decide +kernel)).trans c61
            have c87 : I78 a17 11 = v25 := (g81.cell ta17 (by decide +kernel)).trans c62
            have c88 : I78 a17 13 = v28 := (g81.cell ta17 (by decide +kernel)).trans c63
            exact tr_zret hZ dX7_readLine_185 rfl (ti_b01 (by omega) (by omega)) (by decide) (by decide) ⟨v82, rfl, rfl, rfl, rfl, rfl, hS84, (by omega), trivial⟩
        · skip
          refine tr_aload_n dX7_readLine_50 rfl ?_
          obtain ⟨v89, c90⟩ : ∃ v, I0 a0 11 = v := ⟨_, rfl⟩
          have b91 := iv7_11 hS0.1 ta0 c90
          refine q_getZ dX7_readLine_51 fl7_31 (kR7 hS0.1 ta0) c90 ?_
          refine q_if_ne 64 dX7_readLine_54 (by decide) (fun h92 => ?_) (fun h92 => ?_)
          · skip
            refine tr_aload_n dX7_readLine_64 rfl ?_
            refine q_callVv hE (M' := mX7_step) (as := []) dX7_readLine_65 lk7_51 inX7_step seX7_step myX7_step (by decide) ⟨by decide, by decide⟩ rfl (kR7 hS0.1 ta0) (Nat.le_of_ble_eq_true rfl) rfl rfl (by decide) (by decide) (k_X7_step hS0.1 ta0) ?_
            rintro cn' K' N' I93 R94 L95 ⟨rfl, rfl, rfl, rfl, g96, -⟩
            have hS98 := hS0.tr g96 (by decide +kernel) (by decide +kernel)
            have c99 : I93 a17 5 = v19 := (g96.cell ta17 (by decide +kernel)).trans c20
            have c100 : I93 a17 9 = v22 := (g96.cell ta17 (by decide +kernel)).trans c23
            have c101 : I93 a17 11 = v25 := (g96.cell ta17 (by decide +kernel)).trans c26
            have c102 : I93 a17 13 = v28 := (g96.cell ta17 (by decide +kernel)).trans c29
            have c103 : I93 a17 3 = v31 := (g96.cell ta17 (by decide +kernel)).trans c32
            have c104 : I93 a0 11 = v89 := (g96.cell ta0 (by decide +kernel)).trans c90
            refine tr_iload_n dX7_readLine_68 rfl ?_
            by_cases h105 : v5.toInt = 5
            · skip
              refine tr_tabIn (off := 44) 113 dX7_readLine_69 (by omega) (by omega) (by rw [h105]; decide +kernel) (by decide) ?_
              refine tr_aload_n dX7_readLine_113 rfl ?_
              refine q_callVi hE (M' := mX7_readCheese) (as := []) dX7_readLine_114 lk7_180 inX7_readCheese seX7_readCheese myX7_readCheese (by decide) ⟨by decide, by decide⟩ rfl (kR7 hS98.1 ta0) (Nat.le_of_ble_eq_true rfl) rfl rfl (by decide) (by decide) (k_X7_readCheese hS98.1 ta0 (fun q0 z0 => by obtain rfl := Option.some.inj ((d18).symm.trans z0); (try rw [c99]); (try omega))) ?_
              rintro v110 cn' K' N' I106 R107 L108 ⟨rfl, rfl, rfl, rfl, g109, h111, -⟩
              have hS112 := hS98.tr g109 (by decide +kernel) (by decide +kernel)
              have c113 : I106 a17 9 = v22 := (g109.cell ta17 (by decide +kernel)).trans c100
              have c114 : I106 a17 11 = v25 := (g109.cell ta17 (by decide +kernel)).trans c101
              have c115 : I106 a17 13 = v28 := (g109.cell ta17 (by decide +kernel)).trans c102
              have c116 : I106 a17 3 = v31 := (g109.cell ta17 (by decide +kernel)).trans c103
              have c117 : I106 a0 11 = v89 := (g109.cell ta0 (by decide +kernel)).trans c104
              exact tr_zret hZ dX7_readLine_117 rfl (ti_b01 (by omega) (by omega)) (by decide) (by decide) ⟨v110, rfl, rfl, rfl, rfl, rfl, hS112, (by omega), trivial⟩
            · skip
              by_cases h118 : v5.toInt = 6
              · skip
                refine tr_tabIn (off := 49) 118 dX7_readLine_69 (by omega) (by omega) (by rw [h118]; decide +kernel) (by decide) ?_
                refine tr_aload_n dX7_readLine_118 rfl ?_
                refine q_iconst dX7_readLine_119 (by decide) ?_
                intro v119 h120
                refine q_putZ dX7_readLine_120 fl7_35 (kR7 hS98.1 ta0) (Or.inl rfl) hS98 ta0 (by omega) (by show (0 : Int) ≤ v119.toInt ∧ v119.toInt ≤ (1 : Int); omega) rfl (by decide +kernel) ?_
                intro I121 hS122 e123 f124
                have c125 : I121 a17 5 = v19 := (f124 _ _ (fun q => absurd q.2 (by decide))).trans c99
                have c126 : I121 a17 9 = v22 := (f124 _ _ (fun q => absurd q.2 (by decide))).trans c100
                have c127 : I121 a17 11 = v25 := (f124 _ _ (fun q => absurd q.2 (by decide))).trans c101
                have c128 : I121 a17 13 = v28 := (f124 _ _ (fun q => absurd q.2 (by decide))).trans c102
                have c129 : I121 a17 3 = v31 := (f124 _ _ (fun q => absurd q.2 (by decide))).trans c103
                have c130 : I121 a0 11 = v89 := (f124 _ _ (fun q => absurd q.2 (by decide))).trans c104
                refine tr_aload_n dX7_readLine_123 rfl ?_
                refine tr_aload_n dX7_readLine_124 rfl ?_
                refine tr_getR dX7_readLine_125 fl7_22 (kR7 hS122.1 ta0) d18 ?_
                obtain ⟨a131, d132, ta131⟩ := rf2_8 hW0 ta17
                refine tr_getR dX7_readLine_128 fl7_183 (kR2 hS122.1 ta17) d132 ?_
                refine q_callVi hE (M' := mX7_readMinutes) (as := [_]) dX7_readLine_131 lk7_186 inX7_readMinutes seX7_readMinutes myX7_readMinutes (by decide) ⟨by decide, by decide⟩ rfl (kR7 hS122.1 ta0) (Nat.le_of_ble_eq_true rfl) rfl rfl (by decide) (by decide) (k_X7_readMinutes hS122.1 ta0 ta131) ?_
                rintro v137 cn' K' N' I133 R134 L135 ⟨rfl, rfl, rfl, rfl, g136, h138, -⟩
                have hS139 := hS122.tr g136 (by decide +kernel) (by decide +kernel)
                have c140 : I133 a17 5 = v19 := (g136.cell ta17 (by decide +kernel)).trans c125
                have c141 : I133 a17 9 = v22 := (g136.cell ta17 (by decide +kernel)).trans c126
                have c142 : I133 a17 11 = v25 := (g136.cell ta17 (by decide +kernel)).trans c127
                have c143 : I133 a17 13 = v28 := (g136.cell ta17 (by decide +kernel)).trans c128
                have c144 : I133 a17 3 = v31 := (g136.cell ta17 (by decide +kernel)).trans c129
                have c145 : I133 a0 11 = v89 := (g136.cell ta0 (by decide +kernel)).trans c130
                have c146 : I133 a0 12 = v119 := (g136.cell ta0 (by decide +kernel)).trans e123
                exact tr_zret hZ dX7_readLine_134 rfl (ti_b01 (by omega) (by omega)) (by decide) (by decide) ⟨v137, rfl, rfl, rfl, rfl, rfl, hS139, (by omega), trivial⟩
              · skip
                by_cases h147 : v5.toInt = 7
                · skip
                  refine tr_tabIn (off := 66) 135 dX7_readLine_69 (by omega) (by omega) (by rw [h147]; decide +kernel) (by decide) ?_
                  refine tr_aload_n dX7_readLine_135 rfl ?_
                  refine q_callVi hE (M' := mX7_readTurner) (as := []) dX7_readLine_136 lk7_190 inX7_readTurner seX7_readTurner myX7_readTurner (by decide) ⟨by decide, by decide⟩ rfl (kR7 hS98.1 ta0) (Nat.le_of_ble_eq_true rfl) rfl rfl (by decide) (by decide) (k_X7_readTurner hS98.1 ta0 (fun q0 z0 => by obtain rfl := Option.some.inj ((d18).symm.trans z0); (try rw [c100]); (try omega))) ?_
                  rintro v152 cn' K' N' I148 R149 L150 ⟨rfl, rfl, rfl, rfl, g151, h153, -⟩
                  have hS154 := hS98.tr g151 (by decide +kernel) (by decide +kernel)
                  have c155 : I148 a17 5 = v19 := (g151.cell ta17 (by decide +kernel)).trans c99
                  have c156 : I148 a17 11 = v25 := (g151.cell ta17 (by decide +kernel)).trans c101
                  have c157 : I148 a17 13 = v28 := (g151.cell ta17 (by decide +kernel)).trans c102
                  have c158 : I148 a17 3 = v31 := (g151.cell ta17 (by decide +kernel)).trans c103
                  have c159 : I148 a0 11 = v89 := (g151.cell ta0 (by decide +kernel)).trans c104
                  exact tr_zret hZ dX7_readLine_139 rfl (ti_b01 (by omega) (by omega)) (by decide) (by decide) ⟨v152, rfl, rfl, rfl, rfl, rfl, hS154, (by omega), trivial⟩
                · skip
                  by_cases h160 : v5.toInt = 8
                  · skip
                    refine tr_tabIn (off := 71) 140 dX7_readLine_69 (by omega) (by omega) (by rw [h160]; decide +kernel) (by decide) ?_
                    refine tr_aload_n dX7_readLine_140 rfl ?_
                    refine q_callVi hE (M' := mX7_readCall) (as := []) dX7_readLine_141 lk7_193 inX7_readCall seX7_readCall myX7_readCall (by decide) ⟨by decide, by decide⟩ rfl (kR7 hS98.1 ta0) (Nat.le_of_ble_eq_true rfl) rfl rfl (by decide) (by decide) (k_X7_readCall hS98.1 ta0 (fun q0 z0 => by obtain rfl := Option.some.inj ((d18).symm.trans z0); (try rw [c101]); (try omega))) ?_
                    rintro v165 cn' K' N' I161 R162 L163 ⟨rfl, rfl, rfl, rfl, g164, h166, -⟩
                    have hS167 := hS98.tr g164 (by decide +kernel) (by decide +kernel)
                    have c168 : I161 a17 5 = v19 := (g164.cell ta17 (by decide +kernel)).trans c99
                    have c169 : I161 a17 9 = v22 := (g164.cell ta17 (by decide +kernel)).trans c100
                    have c170 : I161 a17 13 = v28 := (g164.cell ta17 (by decide +kernel)).trans c102
                    have c171 : I161 a17 3 = v31 := (g164.cell ta17 (by decide +kernel)).trans c103
                    have c172 : I161 a0 11 = v89 := (g164.cell ta0 (by decide +kernel)).trans c104
                    exact tr_zret hZ dX7_readLine_144 rfl (ti_b01 (by omega) (by omega)) (by decide) (by decide) ⟨v165, rfl, rfl, rfl, rfl, rfl, hS167, (by omega), trivial⟩
                  · skip
                    by_cases h173 : v5.toInt = 9
                    · skip
                      refine tr_tabIn (off := 76) 145 dX7_readLine_69 (by omega) (by omega) (by rw [h173]; decide +kernel) (by decide) ?_
                      refine tr_aload_n dX7_readLine_145 rfl ?_
                      refine tr_getR dX7_readLine_146 fl7_22 (kR7 hS98.1 ta0) d18 ?_
                      refine tr_dup dX7_readLine_149 rfl ?_
                      refine q_getI dX7_readLine_150 fl7_162 (kR2 hS98.1 ta17) c102 ?_
                      refine q_iconst dX7_readLine_153 (by decide) ?_
                      intro v174 h175
                      refine q_iaddE dX7_readLine_154 (by intros; omega) ?_
                      intro v176 h177
                      refine q_putI dX7_readLine_155 fl7_162 (kR2 hS98.1 ta17) (Or.inl rfl) hS98 ta17 (by show (0 : Int) ≤ v176.toInt ∧ v176.toInt ≤ (4 : Int); omega) rfl (by decide +kernel) ?_
                      intro I178 hS179 e180 f181
                      have c182 : I178 a17 5 = v19 := (f181 _ _ (fun q => absurd q.2 (by decide))).trans c99
                      have c183 : I178 a17 9 = v22 := (f181 _ _ (fun q => absurd q.2 (by decide))).trans c100
                      have c184 : I178 a17 11 = v25 := (f181 _ _ (fun q => absurd q.2 (by decide))).trans c101
                      have c185 : I178 a17 3 = v31 := (f181 _ _ (fun q => absurd q.2 (by decide))).trans c103
                      have c186 : I178 a0 11 = v89 := (f181 _ _ (fun q => absurd q.2 (by decide))).trans c104
                      refine tr_aload_n dX7_readLine_158 rfl ?_
                      refine tr_aload_n dX7_readLine_159 rfl ?_
                      refine tr_getR dX7_readLine_160 fl7_22 (kR7 hS179.1 ta0) d18 ?_
                      obtain ⟨a187, d188, ta187⟩ := rf2_14 hW0 ta17
                      refine tr_getR dX7_readLine_163 fl7_196 (kR2 hS179.1 ta17) d188 ?_
                      refine tr_aload_n dX7_readLine_166 rfl ?_
                      refine tr_getR dX7_readLine_167 fl7_22 (kR7 hS179.1 ta0) d18 ?_
                      refine q_getI dX7_readLine_170 fl7_162 (kR2 hS179.1 ta17) e180 ?_
                      refine q_iconst dX7_readLine_173 (by decide) ?_
                      intro v189 h190
                      refine q_isubE dX7_readLine_174 (by intros; omega) ?_
                      intro v191 h192
                      obtain ⟨a193, d194, ta193⟩ := rf23 hS179.1 ta187 (j := v191.toNatClampNeg) (ti_lt (by omega) (by omega))
                      refine tr_aald dX7_readLine_175 (kR23 hS179.1 ta187) (by decide) (by decide) (ti_in (nR23 hS179.1 ta187) (by omega) (by omega)) d194 ?_
                      refine q_callVi hE (M' := mX7_readMinutes) (as := [_]) dX7_readLine_176 lk7_186 inX7_readMinutes seX7_readMinutes myX7_readMinutes (by decide) ⟨by decide, by decide⟩ rfl (kR7 hS179.1 ta0) (Nat.le_of_ble_eq_true rfl) rfl rfl (by decide) (by decide) (k_X7_readMinutes hS179.1 ta0 ta193) ?_
                      rintro v199 cn' K' N' I195 R196 L197 ⟨rfl, rfl, rfl, rfl, g198, h200, -⟩
                      have hS201 := hS179.tr g198 (by decide +kernel) (by decide +kernel)
                      have c202 : I195 a17 5 = v19 := (g198.cell ta17 (by decide +kernel)).trans c182
                      have c203 : I195 a17 9 = v22 := (g198.cell ta17 (by decide +kernel)).trans c183
                      have c204 : I195 a17 11 = v25 := (g198.cell ta17 (by decide +kernel)).trans c184
                      have c205 : I195 a17 3 = v31 := (g198.cell ta17 (by decide +kernel)).trans c185
                      have c206 : I195 a0 11 = v89 := (g198.cell ta0 (by decide +kernel)).trans c186
                      have c207 : I195 a17 13 = v176 := (g198.cell ta17 (by decide +kernel)).trans e180
                      exact tr_zret hZ dX7_readLine_179 rfl (ti_b01 (by omega) (by omega)) (by decide) (by decide) ⟨v199, rfl, rfl, rfl, rfl, rfl, hS201, (by omega), trivial⟩
                    · skip
                      refine tr_tabOut 180 dX7_readLine_69 (by omega) (by decide) ?_
                      refine tr_aload_n dX7_readLine_180 rfl ?_
                      refine tr_iload_n dX7_readLine_181 rfl ?_
                      refine q_callVi hE (M' := mX7_readEvent) (as := [_]) dX7_readLine_182 lk7_200 inX7_readEvent seX7_readEvent myX7_readEvent (by decide) ⟨by decide, by decide⟩ rfl (kR7 hS98.1 ta0) (Nat.le_of_ble_eq_true rfl) rfl rfl (by decide) (by decide) (k_X7_readEvent hS98.1 ta0 (fun q0 z0 => by obtain rfl := Option.some.inj ((d18).symm.trans z0); (try rw [c103]); (try omega))) ?_
                      rintro v212 cn' K' N' I208 R209 L210 ⟨rfl, rfl, rfl, rfl, g211, h213, -⟩
                      have hS214 := hS98.tr g211 (by decide +kernel) (by decide +kernel)
                      have c215 : I208 a17 5 = v19 := (g211.cell ta17 (by decide +kernel)).trans c99
                      have c216 : I208 a17 9 = v22 := (g211.cell ta17 (by decide +kernel)).trans c100
                      have c217 : I208 a17 11 = v25 := (g211.cell ta17 (by decide +kernel)).trans c101
                      have c218 : I208 a17 13 = v28 := (g211.cell ta17 (by decide +kernel)).trans c102
                      have c219 : I208 a0 11 = v89 := (g211.cell ta0 (by decide +kernel)).trans c104
                      exact tr_zret hZ dX7_readLine_185 rfl (ti_b01 (by omega) (by omega)) (by decide) (by decide) ⟨v212, rfl, rfl, rfl, rfl, rfl, hS214, (by omega), trivial⟩
          · skip
            refine tr_aload_n dX7_readLine_57 rfl ?_
            refine q_bipush dX7_readLine_58 (by decide +kernel) ?_
            intro v220 h221
            refine q_callVi hE (M' := mX7_fail) (as := [_]) dX7_readLine_60 lk7_64 inX7_fail seX7_fail myX7_fail (by decide) ⟨by decide, by decide⟩ rfl (kR7 hS0.1 ta0) (Nat.le_of_ble_eq_true rfl) rfl rfl (by decide) (by decide) (k_X7_fail hS0.1 ta0) ?_
            rintro v226 cn' K' N' I222 R223 L224 ⟨rfl, rfl, rfl, rfl, rfl, g225, h227, -⟩
            have hS228 := hS0.tr g225 (by decide +kernel) (by decide +kernel)
            have c229 : I222 a17 5 = v19 := (g225.cell ta17 (by decide +kernel)).trans c20
            have c230 : I222 a17 9 = v22 := (g225.cell ta17 (by decide +kernel)).trans c23
            have c231 : I222 a17 11 = v25 := (g225.cell ta17 (by decide +kernel)).trans c26
            have c232 : I222 a17 13 = v28 := (g225.cell ta17 (by decide +kernel)).trans c29
            have c233 : I222 a17 3 = v31 := (g225.cell ta17 (by decide +kernel)).trans c32
            have c234 : I222 a0 11 = v89 := (g225.cell ta0 (by decide +kernel)).trans c90
            exact tr_zret hZ dX7_readLine_63 rfl (ti_b01 (by omega) (by omega)) (by decide) (by decide) ⟨v226, rfl, rfl, rfl, rfl, rfl, hS228, (by omega), trivial⟩
      · skip
        refine tr_aload_n dX7_readLine_38 rfl ?_
        refine q_iconst dX7_readLine_39 (by decide) ?_
        intro v235 h236
        refine q_callVi hE (M' := mX7_fail) (as := [_]) dX7_readLine_40 lk7_64 inX7_fail seX7_fail myX7_fail (by decide) ⟨by decide, by decide⟩ rfl (kR7 hS0.1 ta0) (Nat.le_of_ble_eq_true rfl) rfl rfl (by decide) (by decide) (k_X7_fail hS0.1 ta0) ?_
        rintro v241 cn' K' N' I237 R238 L239 ⟨rfl, rfl, rfl, rfl, rfl, g240, h242, -⟩
        have hS243 := hS0.tr g240 (by decide +kernel) (by decide +kernel)
        have c244 : I237 a17 5 = v19 := (g240.cell ta17 (by decide +kernel)).trans c20
        have c245 : I237 a17 9 = v22 := (g240.cell ta17 (by decide +kernel)).trans c23
        have c246 : I237 a17 11 = v25 := (g240.cell ta17 (by decide +kernel)).trans c26
        have c247 : I237 a17 13 = v28 := (g240.cell ta17 (by decide +kernel)).trans c29
        have c248 : I237 a17 3 = v31 := (g240.cell ta17 (by decide +kernel)).trans c32
        exact tr_zret hZ dX7_readLine_43 rfl (ti_b01 (by omega) (by omega)) (by decide) (by decide) ⟨v241, rfl, rfl, rfl, rfl, rfl, hS243, (by omega), trivial⟩
    · skip
      refine tr_aload_n dX7_readLine_24 rfl ?_
      refine q_iconst dX7_readLine_25 (by decide) ?_
      intro v249 h250
      refine q_callVi hE (M' := mX7_fail) (as := [_]) dX7_readLine_26 lk7_64 inX7_fail seX7_fail myX7_fail (by decide) ⟨by decide, by decide⟩ rfl (kR7 hS0.1 ta0) (Nat.le_of_ble_eq_true rfl) rfl rfl (by decide) (by decide) (k_X7_fail hS0.1 ta0) ?_
      rintro v255 cn' K' N' I251 R252 L253 ⟨rfl, rfl, rfl, rfl, rfl, g254, h256, -⟩
      have hS257 := hS0.tr g254 (by decide +kernel) (by decide +kernel)
      exact tr_zret hZ dX7_readLine_29 rfl (ti_b01 (by omega) (by omega)) (by decide) (by decide) ⟨v255, rfl, rfl, rfl, rfl, rfl, hS257, (by omega), trivial⟩
  · skip
    refine tr_aload_n dX7_readLine_10 rfl ?_
    refine q_iconst dX7_readLine_11 (by decide) ?_
    intro v258 h259
    refine q_callVi hE (M' := mX7_fail) (as := [_]) dX7_readLine_12 lk7_64 inX7_fail seX7_fail myX7_fail (by decide) ⟨by decide, by decide⟩ rfl (kR7 hS0.1 ta0) (Nat.le_of_ble_eq_true rfl) rfl rfl (by decide) (by decide) (k_X7_fail hS0.1 ta0) ?_
    rintro v264 cn' K' N' I260 R261 L262 ⟨rfl, rfl, rfl, rfl, rfl, g263, h265, -⟩
    have hS266 := hS0.tr g263 (by decide +kernel) (by decide +kernel)
    exact tr_zret hZ dX7_readLine_15 rfl (ti_b01 (by omega) (by omega)) (by decide) (by decide) ⟨v264, rfl, rfl, rfl, rfl, rfl, hS266, (by omega), trivial⟩
def wi_X7_readAll : List Nat := [128, 129, 131, 133, 135, 137, 139, 141, 192, 193, 194, 195, 256, 257, 258, 259, 260, 261, 320, 321, 322, 323, 384, 449, 450, 451, 452, 454, 455, 456, 457, 459, 460, 463, 464, 1215, 1343, 1599]
def wr_X7_readAll : List Nat := [458]
set_option maxHeartbeats 4000000 in
theorem k_X7_readAll {l : Launch} {T : Nat → Nat} {cn : Nat} {K N : Nat → Nat} {I0 : cz_I} {R0 : cz_R} {L0 : cz_L} {d : Int} (hW0 : Wf T cn K N I0 R0 d) {a0 : Nat} (ta0 : T a0 = 7) {a1 : Nat} (ta1 : T a1 = 2) {x2 : Int32} (hx2 : 0 ≤ x2.toInt ∧ x2.toInt ≤ 900) : ConE l mX7_readAll [.ref a0, .ref a1, .int x2] cn K N I0 R0 L0 (ca_i (fun v cn' K' N' I' R' L' => cn = cn' ∧ K = K' ∧ N = N' ∧ St T cn K N d wi_X7_readAll wr_X7_readAll I0 R0 I' R' ∧ (0 ≤ v.toInt ∧ v.toInt ≤ 1) ∧ True)) := by
  refine ConE.of (by decide +kernel) rfl (Nat.le_of_ble_eq_true rfl) rfl (fun X hX hZ hE => ?_)
  subst hX
  have hS0 : St T cn K N d wi_X7_readAll wr_X7_readAll I0 R0 I0 R0 := St.rf0 hW0
  refine tr_aload_n dX7_readAll_0 rfl ?_
  refine tr_aload_n dX7_readAll_1 rfl ?_
  refine q_putR dX7_readAll_2 fl7_22 (kR7 hS0.1 ta0) (Or.inl rfl) hS0 ta0 (okR_in rfl rfl ta1) rfl (by decide +kernel) ?_
  intro R1 hS2 e3 f4
  refine tr_aload_n dX7_readAll_5 rfl ?_
  refine tr_getR dX7_readAll_6 fl7_22 (kR7 hS2.1 ta0) e3 ?_
  refine q_callVv hE (M' := mX0_clear) (as := []) dX7_readAll_9 lk7_26 inX0_clear seX0_clear myX0_clear (by decide) ⟨by decide, by decide⟩ rfl (kR2 hS2.1 ta1) (Nat.le_of_ble_eq_true rfl) rfl rfl (by decide) (by decide) (k_X0_clear hS2.1 ta1) ?_
  rintro cn' K' N' I5 R6 L7 ⟨rfl, rfl, rfl, rfl, rfl, g8, -⟩
  have hS10 := hS2.tr g8 (by decide +kernel) (by decide +kernel)
  refine tr_aload_n dX7_readAll_12 rfl ?_
  refine q_iconst dX7_readAll_13 (by decide) ?_
  intro v11 h12
  refine q_putZ dX7_readAll_14 fl7_31 (kR7 hS10.1 ta0) (Or.inl rfl) hS10 ta0 (by omega) (by show (0 : Int) ≤ v11.toInt ∧ v11.toInt ≤ (1 : Int); omega) rfl (by decide +kernel) ?_
  intro I13 hS14 e15 f16
  refine tr_aload_n dX7_readAll_17 rfl ?_
  refine q_iconst dX7_readAll_18 (by decide) ?_
  intro v17 h18
  refine q_putZ dX7_readAll_19 fl7_35 (kR7 hS14.1 ta0) (Or.inl rfl) hS14 ta0 (by omega) (by show (0 : Int) ≤ v17.toInt ∧ v17.toInt ≤ (1 : Int); omega) rfl (by decide +kernel) ?_
  intro I19 hS20 e21 f22
  have c23 : I19 a0 11 = v11 := (f22 _ _ (fun q => absurd q.2 (by decide))).trans e15
  refine tr_aload_n dX7_readAll_22 rfl ?_
  refine q_iconst dX7_readAll_23 (by decide) ?_
  intro v24 h25
  refine q_putI dX7_readAll_24 fl7_38 (kR7 hS20.1 ta0) (Or.inl rfl) hS20 ta0 (iokF rfl) rfl (by decide +kernel) ?_
  intro I26 hS27 e28 f29
  have c30 : I26 a0 11 = v11 := (f29 _ _ (fun q => absurd q.2 (by decide))).trans c23
  have c31 : I26 a0 12 = v17 := (f29 _ _ (fun q => absurd q.2 (by decide))).trans e21
  refine tr_aload_n dX7_readAll_27 rfl ?_
  refine q_iconst dX7_readAll_28 (by decide) ?_
  intro v32 h33
  refine q_putI dX7_readAll_29 fl7_42 (kR7 hS27.1 ta0) (Or.inl rfl) hS27 ta0 (iokF rfl) rfl (by decide +kernel) ?_
  intro I34 hS35 e36 f37
  have c38 : I34 a0 11 = v11 := (f37 _ _ (fun q => absurd q.2 (by decide))).trans c30
  have c39 : I34 a0 12 = v17 := (f37 _ _ (fun q => absurd q.2 (by decide))).trans c31
  have c40 : I34 a0 15 = v24 := (f37 _ _ (fun q => absurd q.2 (by decide))).trans e28
  refine tr_aload_n dX7_readAll_32 rfl ?_
  refine tr_iload_n dX7_readAll_33 rfl ?_
  refine q_putI dX7_readAll_34 fl7_45 (kR7 hS35.1 ta0) (Or.inl rfl) hS35 ta0 (by show (0 : Int) ≤ x2.toInt ∧ x2.toInt ≤ (900 : Int); omega) rfl (by decide +kernel) ?_
  intro I41 hS42 e43 f44
  have c45 : I41 a0 11 = v11 := (f44 _ _ (fun q => absurd q.2 (by decide))).trans c38
  have c46 : I41 a0 12 = v17 := (f44 _ _ (fun q => absurd q.2 (by decide))).trans c39
  have c47 : I41 a0 15 = v24 := (f44 _ _ (fun q => absurd q.2 (by decide))).trans c40
  have c48 : I41 a0 16 = v32 := (f44 _ _ (fun q => absurd q.2 (by decide))).trans e36
  refine tr_aload_n dX7_readAll_37 rfl ?_
  refine q_iconst dX7_readAll_38 (by decide) ?_
  intro v49 h50
  refine q_putI dX7_readAll_39 fl7_48 (kR7 hS42.1 ta0) (Or.inl rfl) hS42 ta0 (by show (0 : Int) ≤ v49.toInt ∧ v49.toInt ≤ (900 : Int); omega) rfl (by decide +kernel) ?_
  intro I51 hS52 e53 f54
  have c55 : I51 a0 11 = v11 := (f54 _ _ (fun q => absurd q.2 (by decide))).trans c45
  have c56 : I51 a0 12 = v17 := (f54 _ _ (fun q => absurd q.2 (by decide))).trans c46
  have c57 : I51 a0 15 = v24 := (f54 _ _ (fun q => absurd q.2 (by decide))).trans c47
  have c58 : I51 a0 16 = v32 := (f54 _ _ (fun q => absurd q.2 (by decide))).trans c48
  have c59 : I51 a0 1 = x2 := (f54 _ _ (fun q => absurd q.2 (by decide))).trans e43
  refine tr_aload_n dX7_readAll_42 rfl ?_
  refine q_callVv hE (M' := mX7_step) (as := []) dX7_readAll_43 lk7_51 inX7_step seX7_step myX7_step (by decide) ⟨by decide, by decide⟩ rfl (kR7 hS52.1 ta0) (Nat.le_of_ble_eq_true rfl) rfl rfl (by decide) (by decide) (k_X7_step hS52.1 ta0) ?_
  rintro cn' K' N' I60 R61 L62 ⟨rfl, rfl, rfl, rfl, g63, -⟩
  have hS65 := hS52.tr g63 (by decide +kernel) (by decide +kernel)
  have c66 : I60 a0 11 = v11 := (g63.cell ta0 (by decide +kernel)).trans c55
  have c67 : I60 a0 12 = v17 := (g63.cell ta0 (by decide +kernel)).trans c56
  have c68 : I60 a0 15 = v24 := (g63.cell ta0 (by decide +kernel)).trans c57
  have c69 : I60 a0 16 = v32 := (g63.cell ta0 (by decide +kernel)).trans c58
  have c70 : I60 a0 1 = x2 := (g63.cell ta0 (by decide +kernel)).trans c59
  refine q_iconst dX7_readAll_46 (by decide) ?_
  intro v71 h72
  refine tr_istore_n dX7_readAll_47 (by decide) (by decide) ?_
  have lp83 : ∀ (fu : Nat) (ls : Nat → Option Value) (v73 : Int32) (I78 : cz_I) (R79 : cz_R) (L80 : cz_L), ls 0 = some (.ref a0) → ls 1 = some (.ref a1) → ls 2 = some (.int x2) → ls 3 = some (.int v73) → St T cn K N d wi_X7_readAll wr_X7_readAll I0 R0 I78 R79 → 0 ≤ v73.toInt → (-v73.toInt + 2147483647).toNat < fu → Tr X mX7_readAll 48 ls [] cn K N I78 R79 L80 0 0 := by
    intro fu
    induction fu with
    | zero => intros; rename_i hz; exact absurd hz (Nat.not_lt_zero _)
    | succ fu ih83 =>
      intro ls v73 I78 R79 L80 hl74 hl75 hl76 hl77 hS81 g82 hm83
      refine tr_iload_n dX7_readAll_48 hl77 ?_
      refine q_sipush dX7_readAll_49 (by decide +kernel) ?_
      intro v85 h86
      refine q_icmp_gt 120 dX7_readAll_52 (by decide) (fun h87 => ?_) (fun h87 => ?_)
      · skip
        refine tr_aload_n dX7_readAll_120 hl74 ?_
        refine q_iconst dX7_readAll_121 (by decide) ?_
        intro v88 h89
        refine q_callVi hE (M' := mX7_fail) (as := [_]) dX7_readAll_122 lk7_64 inX7_fail seX7_fail myX7_fail (by decide) ⟨by decide, by decide⟩ rfl (kR7 hS81.1 ta0) (Nat.le_of_ble_eq_true rfl) rfl rfl (by decide) (by decide) (k_X7_fail hS81.1 ta0) ?_
        rintro v94 cn' K' N' I90 R91 L92 ⟨rfl, rfl, rfl, rfl, rfl, g93, h95, -⟩
        have hS96 := hS81.tr g93 (by decide +kernel) (by decide +kernel)
        exact tr_zret hZ dX7_readAll_125 rfl (ti_b01 (by omega) (by omega)) (by decide) (by decide) ⟨v94, rfl, rfl, rfl, rfl, hS96, (by omega), trivial⟩
      · skip
        refine tr_aload_n dX7_readAll_55 hl74 ?_
        refine q_callVi hE (M' := mX7_readLine) (as := []) dX7_readAll_56 lk7_54 inX7_readLine seX7_readLine myX7_readLine (by decide) ⟨by decide, by decide⟩ rfl (kR7 hS81.1 ta0) (Nat.le_of_ble_eq_true rfl) rfl rfl (by decide) (by decide) (k_X7_readLine hS81.1 ta0) ?_
        rintro v101 cn' K' N' I97 R98 L99 ⟨rfl, rfl, rfl, rfl, g100, h102, -⟩
        have hS103 := hS81.tr g100 (by decide +kernel) (by decide +kernel)
        refine q_if_ne 64 dX7_readAll_59 (by decide) (fun h104 => ?_) (fun h104 => ?_)
        · skip
          refine tr_aload_n dX7_readAll_64 hl74 ?_
          obtain ⟨v105, c106⟩ : ∃ v, I97 a0 3 = v := ⟨_, rfl⟩
          have b107 := iv7_3 hS103.1 ta0 c106
          refine q_getI dX7_readAll_65 fl7_58 (kR7 hS103.1 ta0) c106 ?_
          refine q_if_ne 96 dX7_readAll_68 (by decide) (fun h108 => ?_) (fun h108 => ?_)
          · skip
            refine tr_aload_n dX7_readAll_96 hl74 ?_
            refine q_getI dX7_readAll_97 fl7_58 (kR7 hS103.1 ta0) c106 ?_
            refine q_iconst dX7_readAll_100 (by decide) ?_
            intro v109 h110
            refine q_icmp_eq 110 dX7_readAll_101 (by decide) (fun h111 => ?_) (fun h111 => ?_)
            · skip
              refine tr_aload_n dX7_readAll_110 hl74 ?_
              refine q_callVv hE (M' := mX7_step) (as := []) dX7_readAll_111 lk7_51 inX7_step seX7_step myX7_step (by decide) ⟨by decide, by decide⟩ rfl (kR7 hS103.1 ta0) (Nat.le_of_ble_eq_true rfl) rfl rfl (by decide) (by decide) (k_X7_step hS103.1 ta0) ?_
              rintro cn' K' N' I112 R113 L114 ⟨rfl, rfl, rfl, rfl, g115, -⟩
              have hS117 := hS103.tr g115 (by decide +kernel) (by decide +kernel)
              refine q_iincE dX7_readAll_114 hl77 (by decide) (by decide) (by intros; omega) ?_
              intro v118 h119
              refine tr_goto 48 dX7_readAll_117 (by decide) ?_
              exact ih83 _ v118 I112 R79 L114 hl74 hl75 hl76 rfl hS117 (by omega) (by omega)
            · skip
              refine tr_aload_n dX7_readAll_104 hl74 ?_
              refine q_iconst dX7_readAll_105 (by decide) ?_
              intro v120 h121
              refine q_callVi hE (M' := mX7_fail) (as := [_]) dX7_readAll_106 lk7_64 inX7_fail seX7_fail myX7_fail (by decide) ⟨by decide, by decide⟩ rfl (kR7 hS103.1 ta0) (Nat.le_of_ble_eq_true rfl) rfl rfl (by decide) (by decide) (k_X7_fail hS103.1 ta0) ?_
              rintro v126 cn' K' N' I122 R123 L124 ⟨rfl, rfl, rfl, rfl, rfl, g125, h127, -⟩
              have hS128 := hS103.tr g125 (by decide +kernel) (by decide +kernel)
              have c129 : I122 a0 3 = v105 := (g125.cell ta0 (by decide +kernel)).trans c106
              exact tr_zret hZ dX7_readAll_109 rfl (ti_b01 (by omega) (by omega)) (by decide) (by decide) ⟨v126, rfl, rfl, rfl, rfl, hS128, (by omega), trivial⟩
          · skip
            refine tr_aload_n dX7_readAll_71 hl74 ?_
            obtain ⟨a130, d131, ta130⟩ := rf7_10 hS103.1 ta0
            refine tr_getR dX7_readAll_72 fl7_22 (kR7 hS103.1 ta0) d131 ?_
            obtain ⟨v132, c133⟩ : ∃ v, I97 a130 5 = v := ⟨_, rfl⟩
            have b134 := iv2_5 hS103.1 ta130 c133
            refine q_getI dX7_readAll_75 fl7_61 (kR2 hS103.1 ta130) c133 ?_
            refine q_if_gt 90 dX7_readAll_78 (by decide) (fun h135 => ?_) (fun h135 => ?_)
            · skip
              refine q_iconst dX7_readAll_90 (by decide) ?_
              intro v136 h137
              refine tr_goto 95 dX7_readAll_91 (by decide) ?_
              exact tr_zret hZ dX7_readAll_95 rfl (ti_b01 (by omega) (by omega)) (by decide) (by decide) ⟨v136, rfl, rfl, rfl, rfl, hS103, (by omega), trivial⟩
            · skip
              refine tr_aload_n dX7_readAll_81 hl74 ?_
              refine q_bipush dX7_readAll_82 (by decide +kernel) ?_
              intro v138 h139
              refine q_callVi hE (M' := mX7_fail) (as := [_]) dX7_readAll_84 lk7_64 inX7_fail seX7_fail myX7_fail (by decide) ⟨by decide, by decide⟩ rfl (kR7 hS103.1 ta0) (Nat.le_of_ble_eq_true rfl) rfl rfl (by decide) (by decide) (k_X7_fail hS103.1 ta0) ?_
              rintro v144 cn' K' N' I140 R141 L142 ⟨rfl, rfl, rfl, rfl, rfl, g143, h145, -⟩
              have hS146 := hS103.tr g143 (by decide +kernel) (by decide +kernel)
              have c147 : I140 a0 3 = v105 := (g143.cell ta0 (by decide +kernel)).trans c106
              have c148 : I140 a130 5 = v132 := (g143.cell ta130 (by decide +kernel)).trans c133
              refine q_if_eq 94 dX7_readAll_87 (by decide) (fun h149 => ?_) (fun h149 => ?_)
              · skip
                refine q_iconst dX7_readAll_94 (by decide) ?_
                intro v150 h151
                exact tr_zret hZ dX7_readAll_95 rfl (ti_b01 (by omega) (by omega)) (by decide) (by decide) ⟨v150, rfl, rfl, rfl, rfl, hS146, (by omega), trivial⟩
              · skip
                exfalso; omega
        · skip
          refine q_iconst dX7_readAll_62 (by decide) ?_
          intro v152 h153
          exact tr_zret hZ dX7_readAll_63 rfl (ti_b01 (by omega) (by omega)) (by decide) (by decide) ⟨v152, rfl, rfl, rfl, rfl, hS103, (by omega), trivial⟩
  exact lp83 _ _ v71 I60 R1 L62 rfl rfl rfl rfl hS65 (by omega) (Nat.lt_succ_self _)
def wi_X3_clear : List Nat := [512, 513, 514]
def wr_X3_clear : List Nat := []
set_option maxHeartbeats 4000000 in
theorem k_X3_clear {l : Launch} {T : Nat → Nat} {cn : Nat} {K N : Nat → Nat} {I0 : cz_I} {R0 : cz_R} {L0 : cz_L} {d : Int} (hW0 : Wf T cn K N I0 R0 d) {a0 : Nat} (ta0 : T a0 = 8) : ConE l mX3_clear [.ref a0] cn K N I0 R0 L0 (ca_v (fun cn' K' N' I' R' L' => cn = cn' ∧ K = K' ∧ N = N' ∧ R0 = R' ∧ L0 = L' ∧ St T cn K N d wi_X3_clear wr_X3_clear I0 R0 I' R0 ∧ True)) := by
  refine ConE.of (by decide +kernel) rfl (Nat.le_of_ble_eq_true rfl) rfl (fun X hX hZ hE => ?_)
  subst hX
  have hS0 : St T cn K N d wi_X3_clear wr_X3_clear I0 R0 I0 R0 := St.rf0 hW0
  refine tr_aload_n dX3_clear_0 rfl ?_
  refine q_iconst dX3_clear_1 (by decide) ?_
  intro v1 h2
  refine q_putI dX3_clear_2 fl3_18 (kR8 hS0.1 ta0) (Or.inl rfl) hS0 ta0 (iokF rfl) rfl (by decide +kernel) ?_
  intro I3 hS4 e5 f6
  refine tr_aload_n dX3_clear_5 rfl ?_
  refine q_iconst dX3_clear_6 (by decide) ?_
  intro v7 h8
  refine q_putI dX3_clear_7 fl3_22 (kR8 hS4.1 ta0) (Or.inl rfl) hS4 ta0 (by show (0 : Int) ≤ v7.toInt ∧ v7.toInt ≤ (65536 : Int); omega) rfl (by decide +kernel) ?_
  intro I9 hS10 e11 f12
  have c13 : I9 a0 0 = v1 := (f12 _ _ (fun q => absurd q.2 (by decide))).trans e5
  refine tr_aload_n dX3_clear_10 rfl ?_
  refine q_iconst dX3_clear_11 (by decide) ?_
  intro v14 h15
  refine q_putI dX3_clear_12 fl3_25 (kR8 hS10.1 ta0) (Or.inl rfl) hS10 ta0 (by show (0 : Int) ≤ v14.toInt ∧ v14.toInt ≤ (6 : Int); omega) rfl (by decide +kernel) ?_
  intro I16 hS17 e18 f19
  have c20 : I16 a0 0 = v1 := (f19 _ _ (fun q => absurd q.2 (by decide))).trans c13
  have c21 : I16 a0 1 = v7 := (f19 _ _ (fun q => absurd q.2 (by decide))).trans e11
  exact tr_vret hZ dX3_clear_15 rfl (by decide) (by decide) ⟨rfl, rfl, rfl, rfl, rfl, rfl, hS17, trivial⟩
def wi_X6_clear : List Nat := [704, 706]
def wr_X6_clear : List Nat := []
set_option maxHeartbeats 4000000 in
theorem k_X6_clear {l : Launch} {T : Nat → Nat} {cn : Nat} {K N : Nat → Nat} {I0 : cz_I} {R0 : cz_R} {L0 : cz_L} {d : Int} (hW0 : Wf T cn K N I0 R0 d) {a0 : Nat} (ta0 : T a0 = 11) : ConE l mX6_clear [.ref a0] cn K N I0 R0 L0 (ca_v (fun cn' K' N' I' R' L' => cn = cn' ∧ K = K' ∧ N = N' ∧ R0 = R' ∧ L0 = L' ∧ St T cn K N d wi_X6_clear wr_X6_clear I0 R0 I' R0 ∧ True)) := by
  refine ConE.of (by decide +kernel) rfl (Nat.le_of_ble_eq_true rfl) rfl (fun X hX hZ hE => ?_)
  subst hX
  have hS0 : St T cn K N d wi_X6_clear wr_X6_clear I0 R0 I0 R0 := St.rf0 hW0
  refine tr_aload_n dX6_clear_0 rfl ?_
  refine q_iconst dX6_clear_1 (by decide) ?_
  intro v1 h2
  refine q_putI dX6_clear_2 fl6_21 (kR11 hS0.1 ta0) (Or.inl rfl) hS0 ta0 (by show (0 : Int) ≤ v1.toInt ∧ v1.toInt ≤ (12 : Int); omega) rfl (by decide +kernel) ?_
  intro I3 hS4 e5 f6
  refine tr_aload_n dX6_clear_5 rfl ?_
  refine q_iconst dX6_clear_6 (by decide) ?_
  intro v7 h8
  refine q_putI dX6_clear_7 fl6_25 (kR11 hS4.1 ta0) (Or.inl rfl) hS4 ta0 (by show (0 : Int) ≤ v7.toInt ∧ v7.toInt ≤ (3 : Int); omega) rfl (by decide +kernel) ?_
  intro I9 hS10 e11 f12
  have c13 : I9 a0 0 = v1 := (f12 _ _ (fun q => absurd q.2 (by decide))).trans e5
  exact tr_vret hZ dX6_clear_10 rfl (by decide) (by decide) ⟨rfl, rfl, rfl, rfl, rfl, rfl, hS10, trivial⟩
def wi_X10_cloudsMoved : List Nat := [73, 75]
def wr_X10_cloudsMoved : List Nat := []
set_option maxHeartbeats 4000000 in
theorem k_X10_cloudsMoved {l : Launch} {T : Nat → Nat} {cn : Nat} {K N : Nat → Nat} {I0 : cz_I} {R0 : cz_R} {L0 : cz_L} {d : Int} (hW0 : Wf T cn K N I0 R0 d) {a0 : Nat} (ta0 : T a0 = 1) : ConE l mX10_cloudsMoved [.ref a0] cn K N I0 R0 L0 (ca_v (fun cn' K' N' I' R' L' => cn = cn' ∧ K = K' ∧ N = N' ∧ R0 = R' ∧ L0 = L' ∧ St T cn K N d wi_X10_cloudsMoved wr_X10_cloudsMoved I0 R0 I' R0 ∧ True)) := by
  refine ConE.of (by decide +kernel) rfl (Nat.le_of_ble_eq_true rfl) rfl (fun X hX hZ hE => ?_)
  subst hX
  have hS0 : St T cn K N d wi_X10_cloudsMoved wr_X10_cloudsMoved I0 R0 I0 R0 := St.rf0 hW0
  refine tr_aload_n dX10_cloudsMoved_0 rfl ?_
  refine q_iconst dX10_cloudsMoved_1 (by decide) ?_
  intro v1 h2
  refine q_putZ dX10_cloudsMoved_2 fl10_358 (kR1 hS0.1 ta0) (Or.inl rfl) hS0 ta0 (by omega) (by show (0 : Int) ≤ v1.toInt ∧ v1.toInt ≤ (1 : Int); omega) rfl (by decide +kernel) ?_
  intro I3 hS4 e5 f6
  refine tr_aload_n dX10_cloudsMoved_5 rfl ?_
  refine q_iconst dX10_cloudsMoved_6 (by decide) ?_
  intro v7 h8
  refine q_putZ dX10_cloudsMoved_7 fl10_288 (kR1 hS4.1 ta0) (Or.inl rfl) hS4 ta0 (by omega) (by show (0 : Int) ≤ v7.toInt ∧ v7.toInt ≤ (1 : Int); omega) rfl (by decide +kernel) ?_
  intro I9 hS10 e11 f12
  have c13 : I9 a0 9 = v1 := (f12 _ _ (fun q => absurd q.2 (by decide))).trans e5
  exact tr_vret hZ dX10_cloudsMoved_10 rfl (by decide) (by decide) ⟨rfl, rfl, rfl, rfl, rfl, rfl, hS10, trivial⟩
def wi_X10_answered : List Nat := [81]
def wr_X10_answered : List Nat := []
set_option maxHeartbeats 4000000 in
theorem k_X10_answered {l : Launch} {T : Nat → Nat} {cn : Nat} {K N : Nat → Nat} {I0 : cz_I} {R0 : cz_R} {L0 : cz_L} {d : Int} (hW0 : Wf T cn K N I0 R0 d) {a0 : Nat} (ta0 : T a0 = 1) {x1 : Int32} : ConE l mX10_answered [.ref a0, .int x1] cn K N I0 R0 L0 (ca_i (fun v cn' K' N' I' R' L' => cn = cn' ∧ K = K' ∧ N = N' ∧ R0 = R' ∧ L0 = L' ∧ St T cn K N d wi_X10_answered wr_X10_answered I0 R0 I' R0 ∧ True)) := by
  refine ConE.of (by decide +kernel) rfl (Nat.le_of_ble_eq_true rfl) rfl (fun X hX hZ hE => ?_)
  subst hX
  have hS0 : St T cn K N d wi_X10_answered wr_X10_answered I0 R0 I0 R0 := St.rf0 hW0
  refine tr_aload_n dX10_answered_0 rfl ?_
  refine q_iconst dX10_answered_1 (by decide) ?_
  intro v1 h2
  refine q_putI dX10_answered_2 fl10_112 (kR1 hS0.1 ta0) (Or.inl rfl) hS0 ta0 (iokF rfl) rfl (by decide +kernel) ?_
  intro I3 hS4 e5 f6
  refine tr_iload_n dX10_answered_5 rfl ?_
  exact tr_iret hZ dX10_answered_6 rfl (by decide) (by decide) ⟨x1, rfl, rfl, rfl, rfl, rfl, rfl, hS4, trivial⟩
def wi_X10_alp : List Nat := [65, 69, 73, 75, 79, 80, 81, 128, 129, 131, 133, 135, 137, 139, 141, 192, 193, 194, 195, 256, 257, 258, 259, 260, 261, 320, 321, 322, 323, 384, 449, 450, 451, 452, 454, 455, 456, 457, 459, 460, 463, 464, 512, 513, 514, 704, 706, 1215, 1343, 1599]
def wr_X10_alp : List Nat := [66, 67, 458]
set_option maxHeartbeats 4000000 in
theorem k_X10_alp {l : Launch} {T : Nat → Nat} {cn : Nat} {K N : Nat → Nat} {I0 : cz_I} {R0 : cz_R} {L0 : cz_L} {d : Int} (hW0 : Wf T cn K N I0 R0 d) {a0 : Nat} (ta0 : T a0 = 1) {x1 : Int32} : ConE l mX10_alp [.ref a0, .int x1] cn K N I0 R0 L0 (ca_i (fun v cn' K' N' I' R' L' => cn = cn' ∧ K = K' ∧ N = N' ∧ St T cn K N d wi_X10_alp wr_X10_alp I0 R0 I' R' ∧ (((x1.toInt < 0 ∨ x1.toInt > (I0 a0 1).toInt) → (I' a0 1).toInt = (I0 a0 1).toInt)) ∧ (((0 ≤ x1.toInt ∧ x1.toInt ≤ (I0 a0 1).toInt) → (I' a0 1).toInt = 0)) ∧ True)) := by
  refine ConE.of (by decide +kernel) rfl (Nat.le_of_ble_eq_true rfl) rfl (fun X hX hZ hE => ?_)
  subst hX
  have hS0 : St T cn K N d wi_X10_alp wr_X10_alp I0 R0 I0 R0 := St.rf0 hW0
  obtain ⟨v1, c2⟩ : ∃ v, I0 a0 1 = v := ⟨_, rfl⟩
  have b3 := iv1_1 hS0.1 ta0 c2
  refine tr_iload_n dX10_alp_0 rfl ?_
  refine q_if_lt 12 dX10_alp_1 (by decide) (fun h4 => ?_) (fun h4 => ?_)
  · skip
    refine tr_aload_n dX10_alp_12 rfl ?_
    refine q_iconst dX10_alp_13 (by decide) ?_
    intro v5 h6
    refine q_callVi hE (M' := mX10_refused) (as := [_]) dX10_alp_14 lk10_79 inX10_refused seX10_refused myX10_refused (by decide) ⟨by decide, by decide⟩ rfl (kR1 hS0.1 ta0) (Nat.le_of_ble_eq_true rfl) rfl rfl (by decide) (by decide) (k_X10_refused hS0.1 ta0) ?_
    rintro v11 cn' K' N' I7 R8 L9 ⟨rfl, rfl, rfl, rfl, rfl, g10, -⟩
    have hS12 := hS0.tr g10 (by decide +kernel) (by decide +kernel)
    have c13 : I7 a0 1 = v1 := (g10.cell ta0 (by decide +kernel)).trans c2
    exact tr_iret hZ dX10_alp_17 rfl (by decide) (by decide) ⟨v11, rfl, rfl, rfl, rfl, hS12, (by (try rw [c2]); (try rw [c13]); (try omega)), (by (try rw [c2]); (try rw [c13]); (try omega)), trivial⟩
  · skip
    refine tr_iload_n dX10_alp_4 rfl ?_
    refine tr_aload_n dX10_alp_5 rfl ?_
    refine q_getI dX10_alp_6 fl10_71 (kR1 hS0.1 ta0) c2 ?_
    refine q_icmp_le 18 dX10_alp_9 (by decide) (fun h14 => ?_) (fun h14 => ?_)
    · skip
      refine tr_aload_n dX10_alp_18 rfl ?_
      obtain ⟨a15, d16, ta15⟩ := rf1_4 hW0 ta0
      refine tr_getR dX10_alp_19 fl10_28 (kR1 hS0.1 ta0) d16 ?_
      refine tr_aload_n dX10_alp_22 rfl ?_
      obtain ⟨a17, d18, ta17⟩ := rf1_3 hS0.1 ta0
      refine tr_getR dX10_alp_23 fl10_20 (kR1 hS0.1 ta0) d18 ?_
      refine tr_iload_n dX10_alp_26 rfl ?_
      refine q_callVi hE (M' := mX7_readAll) (as := [_, _]) dX10_alp_27 lk10_83 inX7_readAll seX7_readAll myX7_readAll (by decide) ⟨by decide, by decide⟩ rfl (kR7 hS0.1 ta15) (Nat.le_of_ble_eq_true rfl) rfl rfl (by decide) (by decide) (k_X7_readAll hS0.1 ta15 ta17 (by omega)) ?_
      rintro v23 cn' K' N' I19 R20 L21 ⟨rfl, rfl, rfl, g22, h24, -⟩
      have hS25 := hS0.tr g22 (by decide +kernel) (by decide +kernel)
      have c26 : I19 a0 1 = v1 := (g22.cell ta0 (by decide +kernel)).trans c2
      have d27 : R20 a0 3 = some a17 := (g22.rcell ta0 (by decide +kernel)).trans d18
      refine tr_istore_n dX10_alp_30 (by decide) (by decide) ?_
      refine tr_aload_n dX10_alp_31 rfl ?_
      refine q_iconst dX10_alp_32 (by decide) ?_
      intro v28 h29
      refine q_putI dX10_alp_33 fl10_71 (kR1 hS25.1 ta0) (Or.inl rfl) hS25 ta0 (by show (0 : Int) ≤ v28.toInt ∧ v28.toInt ≤ (900 : Int); omega) rfl (by decide +kernel) ?_
      intro I30 hS31 e32 f33
      refine tr_aload_n dX10_alp_36 rfl ?_
      refine tr_aload_n dX10_alp_37 rfl ?_
      refine tr_getR dX10_alp_38 fl10_28 (kR1 hS31.1 ta0) ((hS31.rcell ta0 (by decide +kernel)).trans d16) ?_
      obtain ⟨v34, c35⟩ : ∃ v, I30 a15 15 = v := ⟨_, rfl⟩
      refine q_getI dX10_alp_41 fl10_87 (kR7 hS31.1 ta15) c35 ?_
      refine q_putI dX10_alp_44 fl10_90 (kR1 hS31.1 ta0) (Or.inl rfl) hS31 ta0 (iokF rfl) rfl (by decide +kernel) ?_
      intro I36 hS37 e38 f39
      have c40 : I36 a0 1 = v28 := (f39 _ _ (fun q => absurd q.2 (by decide))).trans e32
      have c41 : I36 a15 15 = v34 := (f39 _ _ (fun q => by have z := ta15; rw [q.1, ta0] at z; exact absurd z (by decide))).trans c35
      refine tr_aload_n dX10_alp_47 rfl ?_
      refine tr_aload_n dX10_alp_48 rfl ?_
      refine tr_getR dX10_alp_49 fl10_28 (kR1 hS37.1 ta0) ((hS37.rcell ta0 (by decide +kernel)).trans d16) ?_
      obtain ⟨v42, c43⟩ : ∃ v, I36 a15 16 = v := ⟨_, rfl⟩
      refine q_getI dX10_alp_52 fl10_91 (kR7 hS37.1 ta15) c43 ?_
      refine q_putI dX10_alp_55 fl10_94 (kR1 hS37.1 ta0) (Or.inl rfl) hS37 ta0 (iokF rfl) rfl (by decide +kernel) ?_
      intro I44 hS45 e46 f47
      have c48 : I44 a0 1 = v28 := (f47 _ _ (fun q => absurd q.2 (by decide))).trans c40
      have c49 : I44 a15 15 = v34 := (f47 _ _ (fun q => absurd q.2 (by decide))).trans c41
      have c50 : I44 a0 15 = v34 := (f47 _ _ (fun q => absurd q.2 (by decide))).trans e38
      have c51 : I44 a15 16 = v42 := (f47 _ _ (fun q => by have z := ta15; rw [q.1, ta0] at z; exact absurd z (by decide))).trans c43
      refine tr_iload_n dX10_alp_58 rfl ?_
      refine q_if_ne 68 dX10_alp_59 (by decide) (fun h52 => ?_) (fun h52 => ?_)
      · skip
        refine tr_aload_n dX10_alp_68 rfl ?_
        obtain ⟨a53, d54, ta53⟩ := rf1_2 hS45.1 ta0
        refine tr_getR dX10_alp_69 fl10_16 (kR1 hS45.1 ta0) d54 ?_
        refine tr_astore_n dX10_alp_72 (by decide) (by decide) ?_
        refine tr_aload_n dX10_alp_73 rfl ?_
        refine tr_aload_n dX10_alp_74 rfl ?_
        refine tr_getR dX10_alp_75 fl10_20 (kR1 hS45.1 ta0) d27 ?_
        refine q_putR dX10_alp_78 fl10_16 (kR1 hS45.1 ta0) (Or.inl rfl) hS45 ta0 (okR_in rfl rfl ta17) rfl (by decide +kernel) ?_
        intro R55 hS56 e57 f58
        have d59 : R55 a0 3 = some a17 := (f58 _ _ (fun q => absurd q.2 (by decide))).trans d27
        refine tr_aload_n dX10_alp_81 rfl ?_
        refine tr_aload_n dX10_alp_82 rfl ?_
        refine q_putR dX10_alp_83 fl10_20 (kR1 hS56.1 ta0) (Or.inl rfl) hS56 ta0 (okR_in rfl rfl ta53) rfl (by decide +kernel) ?_
        intro R60 hS61 e62 f63
        have d64 : R60 a0 2 = some a17 := (f63 _ _ (fun q => absurd q.2 (by decide))).trans e57
        refine tr_aload_n dX10_alp_86 rfl ?_
        refine q_iconst dX10_alp_87 (by decide) ?_
        intro v65 h66
        refine q_putZ dX10_alp_88 fl10_95 (kR1 hS61.1 ta0) (Or.inl rfl) hS61 ta0 (by omega) (by show (0 : Int) ≤ v65.toInt ∧ v65.toInt ≤ (1 : Int); omega) rfl (by decide +kernel) ?_
        intro I67 hS68 e69 f70
        have c71 : I67 a0 1 = v28 := (f70 _ _ (fun q => absurd q.2 (by decide))).trans c48
        have c72 : I67 a15 15 = v34 := (f70 _ _ (fun q => absurd q.2 (by decide))).trans c49
        have c73 : I67 a0 15 = v34 := (f70 _ _ (fun q => absurd q.2 (by decide))).trans c50
        have c74 : I67 a15 16 = v42 := (f70 _ _ (fun q => absurd q.2 (by decide))).trans c51
        have c75 : I67 a0 16 = v42 := (f70 _ _ (fun q => absurd q.2 (by decide))).trans e46
        refine tr_aload_n dX10_alp_91 rfl ?_
        obtain ⟨a76, d77, ta76⟩ := rf1_6 hW0 ta0
        refine tr_getR dX10_alp_92 fl10_35 (kR1 hS68.1 ta0) ((hS68.rcell ta0 (by decide +kernel)).trans d77) ?_
        refine q_callVv hE (M' := mX3_clear) (as := []) dX10_alp_95 lk10_99 inX3_clear seX3_clear myX3_clear (by decide) ⟨by decide, by decide⟩ rfl (kR8 hS68.1 ta76) (Nat.le_of_ble_eq_true rfl) rfl rfl (by decide) (by decide) (k_X3_clear hS68.1 ta76) ?_
        rintro cn' K' N' I78 R79 L80 ⟨rfl, rfl, rfl, rfl, rfl, g81, -⟩
        have hS83 := hS68.tr g81 (by decide +kernel) (by decide +kernel)
        have c84 : I78 a0 1 = v28 := (g81.cell ta0 (by decide +kernel)).trans c71
        have c85 : I78 a15 15 = v34 := (g81.cell ta15 (by decide +kernel)).trans c72
        have c86 : I78 a0 15 = v34 := (g81.cell ta0 (by decide +kernel)).trans c73
        have c87 : I78 a15 16 = v42 := (g81.cell ta15 (by decide +kernel)).trans c74
        have c88 : I78 a0 16 = v42 := (g81.cell ta0 (by decide +kernel)).trans c75
        have c89 : I78 a0 5 = v65 := (g81.cell ta0 (by decide +kernel)).trans e69
        refine tr_aload_n dX10_alp_98 rfl ?_
        obtain ⟨a90, d91, ta90⟩ := rf1_7 hW0 ta0
        refine tr_getR dX10_alp_99 fl10_42 (kR1 hS83.1 ta0) ((hS83.rcell ta0 (by decide +kernel)).trans d91) ?_
        refine q_callVv hE (M' := mX6_clear) (as := []) dX10_alp_102 lk10_102 inX6_clear seX6_clear myX6_clear (by decide) ⟨by decide, by decide⟩ rfl (kR11 hS83.1 ta90) (Nat.le_of_ble_eq_true rfl) rfl rfl (by decide) (by decide) (k_X6_clear hS83.1 ta90) ?_
        rintro cn' K' N' I92 R93 L94 ⟨rfl, rfl, rfl, rfl, rfl, g95, -⟩
        have hS97 := hS83.tr g95 (by decide +kernel) (by decide +kernel)
        have c98 : I92 a0 1 = v28 := (g95.cell ta0 (by decide +kernel)).trans c84
        have c99 : I92 a15 15 = v34 := (g95.cell ta15 (by decide +kernel)).trans c85
        have c100 : I92 a0 15 = v34 := (g95.cell ta0 (by decide +kernel)).trans c86
        have c101 : I92 a15 16 = v42 := (g95.cell ta15 (by decide +kernel)).trans c87
        have c102 : I92 a0 16 = v42 := (g95.cell ta0 (by decide +kernel)).trans c88
        have c103 : I92 a0 5 = v65 := (g95.cell ta0 (by decide +kernel)).trans c89
        refine tr_aload_n dX10_alp_105 rfl ?_
        refine q_callVv hE (M' := mX10_cloudsMoved) (as := []) dX10_alp_106 lk10_103 inX10_cloudsMoved seX10_cloudsMoved myX10_cloudsMoved (by decide) ⟨by decide, by decide⟩ rfl (kR1 hS97.1 ta0) (Nat.le_of_ble_eq_true rfl) rfl rfl (by decide) (by decide) (k_X10_cloudsMoved hS97.1 ta0) ?_
        rintro cn' K' N' I104 R105 L106 ⟨rfl, rfl, rfl, rfl, rfl, g107, -⟩
        have hS109 := hS97.tr g107 (by decide +kernel) (by decide +kernel)
        have c110 : I104 a0 1 = v28 := (g107.cell ta0 (by decide +kernel)).trans c98
        have c111 : I104 a15 15 = v34 := (g107.cell ta15 (by decide +kernel)).trans c99
        have c112 : I104 a0 15 = v34 := (g107.cell ta0 (by decide +kernel)).trans c100
        have c113 : I104 a15 16 = v42 := (g107.cell ta15 (by decide +kernel)).trans c101
        have c114 : I104 a0 16 = v42 := (g107.cell ta0 (by decide +kernel)).trans c102
        have c115 : I104 a0 5 = v65 := (g107.cell ta0 (by decide +kernel)).trans c103
        refine tr_aload_n dX10_alp_109 rfl ?_
        refine tr_aload_n dX10_alp_110 rfl ?_
        refine tr_getR dX10_alp_111 fl10_16 (kR1 hS109.1 ta0) d64 ?_
        obtain ⟨v116, c117⟩ : ∃ v, I104 a17 5 = v := ⟨_, rfl⟩
        have b118 := iv2_5 hS109.1 ta17 c117
        refine q_getI dX10_alp_114 fl10_106 (kR2 hS109.1 ta17) c117 ?_
        refine q_callVi hE (M' := mX10_answered) (as := [_]) dX10_alp_117 lk10_109 inX10_answered seX10_answered myX10_answered (by decide) ⟨by decide, by decide⟩ rfl (kR1 hS109.1 ta0) (Nat.le_of_ble_eq_true rfl) rfl rfl (by decide) (by decide) (k_X10_answered hS109.1 ta0) ?_
        rintro v123 cn' K' N' I119 R120 L121 ⟨rfl, rfl, rfl, rfl, rfl, g122, -⟩
        have hS124 := hS109.tr g122 (by decide +kernel) (by decide +kernel)
        have c125 : I119 a0 1 = v28 := (g122.cell ta0 (by decide +kernel)).trans c110
        have c126 : I119 a15 15 = v34 := (g122.cell ta15 (by decide +kernel)).trans c111
        have c127 : I119 a0 15 = v34 := (g122.cell ta0 (by decide +kernel)).trans c112
        have c128 : I119 a15 16 = v42 := (g122.cell ta15 (by decide +kernel)).trans c113
        have c129 : I119 a0 16 = v42 := (g122.cell ta0 (by decide +kernel)).trans c114
        have c130 : I119 a0 5 = v65 := (g122.cell ta0 (by decide +kernel)).trans c115
        have c131 : I119 a17 5 = v116 := (g122.cell ta17 (by decide +kernel)).trans c117
        exact tr_iret hZ dX10_alp_120 rfl (by decide) (by decide) ⟨v123, rfl, rfl, rfl, rfl, hS124, (by (try rw [c2]); (try rw [c125]); (try omega)), (by (try rw [c2]); (try rw [c125]); (try omega)), trivial⟩
      · skip
        refine tr_aload_n dX10_alp_62 rfl ?_
        refine q_iconst dX10_alp_63 (by decide) ?_
        intro v132 h133
        refine q_callVi hE (M' := mX10_refused) (as := [_]) dX10_alp_64 lk10_79 inX10_refused seX10_refused myX10_refused (by decide) ⟨by decide, by decide⟩ rfl (kR1 hS45.1 ta0) (Nat.le_of_ble_eq_true rfl) rfl rfl (by decide) (by decide) (k_X10_refused hS45.1 ta0) ?_
        rintro v138 cn' K' N' I134 R135 L136 ⟨rfl, rfl, rfl, rfl, rfl, g137, -⟩
        have hS139 := hS45.tr g137 (by decide +kernel) (by decide +kernel)
        have c140 : I134 a0 1 = v28 := (g137.cell ta0 (by decide +kernel)).trans c48
        have c141 : I134 a15 15 = v34 := (g137.cell ta15 (by decide +kernel)).trans c49
        have c142 : I134 a0 15 = v34 := (g137.cell ta0 (by decide +kernel)).trans c50
        have c143 : I134 a15 16 = v42 := (g137.cell ta15 (by decide +kernel)).trans c51
        have c144 : I134 a0 16 = v42 := (g137.cell ta0 (by decide +kernel)).trans e46
        exact tr_iret hZ dX10_alp_67 rfl (by decide) (by decide) ⟨v138, rfl, rfl, rfl, rfl, hS139, (by (try rw [c2]); (try rw [c140]); (try omega)), (by (try rw [c2]); (try rw [c140]); (try omega)), trivial⟩
    · skip
      refine tr_aload_n dX10_alp_12 rfl ?_
      refine q_iconst dX10_alp_13 (by decide) ?_
      intro v145 h146
      refine q_callVi hE (M' := mX10_refused) (as := [_]) dX10_alp_14 lk10_79 inX10_refused seX10_refused myX10_refused (by decide) ⟨by decide, by decide⟩ rfl (kR1 hS0.1 ta0) (Nat.le_of_ble_eq_true rfl) rfl rfl (by decide) (by decide) (k_X10_refused hS0.1 ta0) ?_
      rintro v151 cn' K' N' I147 R148 L149 ⟨rfl, rfl, rfl, rfl, rfl, g150, -⟩
      have hS152 := hS0.tr g150 (by decide +kernel) (by decide +kernel)
      have c153 : I147 a0 1 = v1 := (g150.cell ta0 (by decide +kernel)).trans c2
      exact tr_iret hZ dX10_alp_17 rfl (by decide) (by decide) ⟨v151, rfl, rfl, rfl, rfl, hS152, (by (try rw [c2]); (try rw [c153]); (try omega)), (by (try rw [c2]); (try rw [c153]); (try omega)), trivial⟩
set_option maxHeartbeats 4000000 in
theorem k_X10_fault {l : Launch} {T : Nat → Nat} {cn : Nat} {K N : Nat → Nat} {I0 : cz_I} {R0 : cz_R} {L0 : cz_L} {d : Int} (hW0 : Wf T cn K N I0 R0 d) {a0 : Nat} (ta0 : T a0 = 1) : ConE l mX10_fault [.ref a0] cn K N I0 R0 L0 (ca_i (fun v cn' K' N' I' R' L' => cn = cn' ∧ K = K' ∧ N = N' ∧ I0 = I' ∧ R0 = R' ∧ L0 = L' ∧ (v.toInt = (I0 a0 15).toInt) ∧ True)) := by
  refine ConE.of (by decide +kernel) rfl (Nat.le_of_ble_eq_true rfl) rfl (fun X hX hZ hE => ?_)
  subst hX
  obtain ⟨v1, c2⟩ : ∃ v, I0 a0 15 = v := ⟨_, rfl⟩
  refine tr_aload_n dX10_fault_0 rfl ?_
  refine q_getI dX10_fault_1 fl10_90 (kR1 hW0 ta0) c2 ?_
  exact tr_iret hZ dX10_fault_4 rfl (by decide) (by decide) ⟨v1, rfl, rfl, rfl, rfl, rfl, rfl, rfl, (by (try rw [c2]); (try omega)), trivial⟩
set_option maxHeartbeats 4000000 in
theorem k_X10_where {l : Launch} {T : Nat → Nat} {cn : Nat} {K N : Nat → Nat} {I0 : cz_I} {R0 : cz_R} {L0 : cz_L} {d : Int} (hW0 : Wf T cn K N I0 R0 d) {a0 : Nat} (ta0 : T a0 = 1) : ConE l mX10_where [.ref a0] cn K N I0 R0 L0 (ca_i (fun v cn' K' N' I' R' L' => cn = cn' ∧ K = K' ∧ N = N' ∧ I0 = I' ∧ R0 = R' ∧ L0 = L' ∧ True)) := by
  refine ConE.of (by decide +kernel) rfl (Nat.le_of_ble_eq_true rfl) rfl (fun X hX hZ hE => ?_)
  subst hX
  refine tr_aload_n dX10_where_0 rfl ?_
  obtain ⟨v1, c2⟩ : ∃ v, I0 a0 17 = v := ⟨_, rfl⟩
  refine q_getI dX10_where_1 fl10_112 (kR1 hW0 ta0) c2 ?_
  refine q_iconst dX10_where_4 (by decide) ?_
  intro v3 h4
  refine q_icmp_ne 15 dX10_where_5 (by decide) (fun h5 => ?_) (fun h5 => ?_)
  · skip
    refine q_iconst dX10_where_15 (by decide) ?_
    intro v6 h7
    exact tr_iret hZ dX10_where_16 rfl (by decide) (by decide) ⟨v6, rfl, rfl, rfl, rfl, rfl, rfl, rfl, trivial⟩
  · skip
    refine tr_aload_n dX10_where_8 rfl ?_
    obtain ⟨v8, c9⟩ : ∃ v, I0 a0 16 = v := ⟨_, rfl⟩
    refine q_getI dX10_where_9 fl10_94 (kR1 hW0 ta0) c9 ?_
    refine tr_goto 16 dX10_where_12 (by decide) ?_
    exact tr_iret hZ dX10_where_16 rfl (by decide) (by decide) ⟨v8, rfl, rfl, rfl, rfl, rfl, rfl, rfl, trivial⟩
set_option maxHeartbeats 4000000 in
theorem k_X10_isMinute {l : Launch} {T : Nat → Nat} {cn : Nat} {K N : Nat → Nat} {I0 : cz_I} {R0 : cz_R} {L0 : cz_L} {d : Int} (hW0 : Wf T cn K N I0 R0 d) {a0 : Nat} (ta0 : T a0 = 1) {x1 : Int32} : ConE l mX10_isMinute [.ref a0, .int x1] cn K N I0 R0 L0 (ca_i (fun v cn' K' N' I' R' L' => cn = cn' ∧ K = K' ∧ N = N' ∧ I0 = I' ∧ R0 = R' ∧ L0 = L' ∧ (0 ≤ v.toInt ∧ v.toInt ≤ 1) ∧ ((v.toInt = 1 → (0 ≤ x1.toInt ∧ x1.toInt ≤ 239))) ∧ True)) := by
  refine ConE.of (by decide +kernel) rfl (Nat.le_of_ble_eq_true rfl) rfl (fun X hX hZ hE => ?_)
  subst hX
  refine tr_iload_n dX10_isMinute_0 rfl ?_
  refine q_if_lt 19 dX10_isMinute_1 (by decide) (fun h1 => ?_) (fun h1 => ?_)
  · skip
    refine q_iconst dX10_isMinute_19 (by decide) ?_
    intro v2 h3
    exact tr_zret hZ dX10_isMinute_20 rfl (ti_b01 (by omega) (by omega)) (by decide) (by decide) ⟨v2, rfl, rfl, rfl, rfl, rfl, rfl, rfl, (by omega), (by omega), trivial⟩
  · skip
    refine tr_iload_n dX10_isMinute_4 rfl ?_
    refine tr_aload_n dX10_isMinute_5 rfl ?_
    obtain ⟨a4, d5, ta4⟩ := rf1_2 hW0 ta0
    refine tr_getR dX10_isMinute_6 fl10_16 (kR1 hW0 ta0) d5 ?_
    obtain ⟨v6, c7⟩ : ∃ v, I0 a4 0 = v := ⟨_, rfl⟩
    have b8 := iv2_0 hW0 ta4 c7
    refine q_getI dX10_isMinute_9 fl10_146 (kR2 hW0 ta4) c7 ?_
    refine q_icmp_ge 19 dX10_isMinute_12 (by decide) (fun h9 => ?_) (fun h9 => ?_)
    · skip
      refine q_iconst dX10_isMinute_19 (by decide) ?_
      intro v10 h11
      exact tr_zret hZ dX10_isMinute_20 rfl (ti_b01 (by omega) (by omega)) (by decide) (by decide) ⟨v10, rfl, rfl, rfl, rfl, rfl, rfl, rfl, (by omega), (by omega), trivial⟩
    · skip
      refine q_iconst dX10_isMinute_15 (by decide) ?_
      intro v12 h13
      refine tr_goto 20 dX10_isMinute_16 (by decide) ?_
      exact tr_zret hZ dX10_isMinute_20 rfl (ti_b01 (by omega) (by omega)) (by decide) (by decide) ⟨v12, rfl, rfl, rfl, rfl, rfl, rfl, rfl, (by omega), (by omega), trivial⟩
def wi_X8_wipe : List Nat := [2303, 2367, 2431, 2495, 2623]
def wr_X8_wipe : List Nat := []
set_option maxHeartbeats 4000000 in
theorem k_X8_wipe {l : Launch} {T : Nat → Nat} {cn : Nat} {K N : Nat → Nat} {I0 : cz_I} {R0 : cz_R} {L0 : cz_L} {d : Int} (hW0 : Wf T cn K N I0 R0 d) {a0 : Nat} (ta0 : T a0 = 12) : ConE l mX8_wipe [.ref a0] cn K N I0 R0 L0 (ca_v (fun cn' K' N' I' R' L' => cn = cn' ∧ K = K' ∧ N = N' ∧ R0 = R' ∧ L0 = L' ∧ St T cn K N d wi_X8_wipe wr_X8_wipe I0 R0 I' R0 ∧ True)) := by
  refine ConE.of (by decide +kernel) rfl (Nat.le_of_ble_eq_true rfl) rfl (fun X hX hZ hE => ?_)
  subst hX
  have hS0 : St T cn K N d wi_X8_wipe wr_X8_wipe I0 R0 I0 R0 := St.rf0 hW0
  refine q_iconst dX8_wipe_0 (by decide) ?_
  intro v1 h2
  refine tr_istore_n dX8_wipe_1 (by decide) (by decide) ?_
  have lp9 : ∀ (fu : Nat) (ls : Nat → Option Value) (v3 : Int32) (I6 : cz_I), ls 0 = some (.ref a0) → ls 1 = some (.int v3) → St T cn K N d wi_X8_wipe wr_X8_wipe I0 R0 I6 R0 → 0 ≤ v3.toInt → (-v3.toInt + 2147483647).toNat < fu → Tr X mX8_wipe 2 ls [] cn K N I6 R0 L0 0 0 := by
    intro fu
    induction fu with
    | zero => intros; rename_i hz; exact absurd hz (Nat.not_lt_zero _)
    | succ fu ih9 =>
      intro ls v3 I6 hl4 hl5 hS7 g8 hm9
      refine tr_iload_n dX8_wipe_2 hl5 ?_
      refine tr_aload_n dX8_wipe_3 hl4 ?_
      obtain ⟨v11, c12⟩ : ∃ v, I0 a0 0 = v := ⟨_, rfl⟩
      have b13 := iv12_0 hW0 ta0 c12
      refine q_getI dX8_wipe_4 fl8_46 (kR12 hS7.1 ta0) ((hS7.cell ta0 (by decide +kernel)).trans c12) ?_
      refine q_icmp_ge 51 dX8_wipe_7 (by decide) (fun h14 => ?_) (fun h14 => ?_)
      · skip
        exact tr_vret hZ dX8_wipe_51 rfl (by decide) (by decide) ⟨rfl, rfl, rfl, rfl, rfl, rfl, hS7, trivial⟩
      · skip
        refine tr_aload_n dX8_wipe_10 hl4 ?_
        obtain ⟨a15, d16, ta15⟩ := rf12_2 hW0 ta0
        refine tr_getR dX8_wipe_11 fl8_9 (kR12 hS7.1 ta0) d16 ?_
        refine tr_iload_n dX8_wipe_14 hl5 ?_
        refine q_iconst dX8_wipe_15 (by decide) ?_
        intro v17 h18
        refine q_zast dX8_wipe_16 (kR35 hS7.1 ta15) (ti_in (nR35 hS7.1 ta15) (by omega) (by omega)) hS7 ta15 (by omega) rfl rfl (by rfl) ?_
        intro I19 hS20 f21
        refine tr_aload_n dX8_wipe_17 hl4 ?_
        obtain ⟨a23, d24, ta23⟩ := rf12_3 hW0 ta0
        refine tr_getR dX8_wipe_18 fl8_15 (kR12 hS20.1 ta0) d24 ?_
        refine tr_iload_n dX8_wipe_21 hl5 ?_
        refine q_iconst dX8_wipe_22 (by decide) ?_
        intro v25 h26
        refine q_zast dX8_wipe_23 (kR36 hS20.1 ta23) (ti_in (nR36 hS20.1 ta23) (by omega) (by omega)) hS20 ta23 (by omega) rfl rfl (by rfl) ?_
        intro I27 hS28 f29
        refine tr_aload_n dX8_wipe_24 hl4 ?_
        obtain ⟨a31, d32, ta31⟩ := rf12_4 hW0 ta0
        refine tr_getR dX8_wipe_25 fl8_18 (kR12 hS28.1 ta0) d32 ?_
        refine tr_iload_n dX8_wipe_28 hl5 ?_
        refine q_iconst dX8_wipe_29 (by decide) ?_
        intro v33 h34
        refine q_zast dX8_wipe_30 (kR37 hS28.1 ta31) (ti_in (nR37 hS28.1 ta31) (by omega) (by omega)) hS28 ta31 (by omega) rfl rfl (by rfl) ?_
        intro I35 hS36 f37
        refine tr_aload_n dX8_wipe_31 hl4 ?_
        obtain ⟨a39, d40, ta39⟩ := rf12_5 hW0 ta0
        refine tr_getR dX8_wipe_32 fl8_21 (kR12 hS36.1 ta0) d40 ?_
        refine tr_iload_n dX8_wipe_35 hl5 ?_
        refine q_iconst dX8_wipe_36 (by decide) ?_
        intro v41 h42
        refine q_iast dX8_wipe_37 (kR38 hS36.1 ta39) (ti_in (nR38 hS36.1 ta39) (by omega) (by omega)) hS36 ta39 (iokF rfl) rfl (by rfl) ?_
        intro I43 hS44 e46 f45
        refine tr_aload_n dX8_wipe_38 hl4 ?_
        obtain ⟨a47, d48, ta47⟩ := rf12_7 hW0 ta0
        refine tr_getR dX8_wipe_39 fl8_28 (kR12 hS44.1 ta0) d48 ?_
        refine tr_iload_n dX8_wipe_42 hl5 ?_
        refine q_iconst dX8_wipe_43 (by decide) ?_
        intro v49 h50
        refine q_iast dX8_wipe_44 (kR40 hS44.1 ta47) (ti_in (nR40 hS44.1 ta47) (by omega) (by omega)) hS44 ta47 (iokF rfl) rfl (by rfl) ?_
        intro I51 hS52 e54 f53
        refine q_iincE dX8_wipe_45 hl5 (by decide) (by decide) (by intros; omega) ?_
        intro v55 h56
        refine tr_goto 2 dX8_wipe_48 (by decide) ?_
        exact ih9 _ v55 I51 hl4 rfl hS52 (by omega) (by omega)
  exact lp9 _ _ v1 I0 rfl rfl hS0 (by omega) (Nat.lt_succ_self _)
set_option maxHeartbeats 4000000 in
theorem k_X8_isBright {l : Launch} {T : Nat → Nat} {cn : Nat} {K N : Nat → Nat} {I0 : cz_I} {R0 : cz_R} {L0 : cz_L} {d : Int} (hW0 : Wf T cn K N I0 R0 d) {a0 : Nat} (ta0 : T a0 = 12) {x1 : Int32} (hx1 : 0 ≤ x1.toInt ∧ x1.toInt ≤ 239) : ConE l mX8_isBright [.ref a0, .int x1] cn K N I0 R0 L0 (ca_i (fun v cn' K' N' I' R' L' => cn = cn' ∧ K = K' ∧ N = N' ∧ I0 = I' ∧ R0 = R' ∧ L0 = L' ∧ (0 ≤ v.toInt ∧ v.toInt ≤ 1) ∧ True)) := by
  refine ConE.of (by decide +kernel) rfl (Nat.le_of_ble_eq_true rfl) rfl (fun X hX hZ hE => ?_)
  subst hX
  refine tr_aload_n dX8_isBright_0 rfl ?_
  obtain ⟨a1, d2, ta1⟩ := rf12_2 hW0 ta0
  refine tr_getR dX8_isBright_1 fl8_9 (kR12 hW0 ta0) d2 ?_
  refine tr_iload_n dX8_isBright_4 rfl ?_
  refine q_zald dX8_isBright_5 (kR35 hW0 ta1) (ti_in (nR35 hW0 ta1) (by omega) (by omega)) ?_
  intro v3 c4
  have b5 := iv35 hW0 ta1 c4
  refine q_if_ne 31 dX8_isBright_6 (by decide) (fun h6 => ?_) (fun h6 => ?_)
  · skip
    refine q_iconst dX8_isBright_31 (by decide) ?_
    intro v7 h8
    exact tr_zret hZ dX8_isBright_32 rfl (ti_b01 (by omega) (by omega)) (by decide) (by decide) ⟨v7, rfl, rfl, rfl, rfl, rfl, rfl, rfl, (by omega), trivial⟩
  · skip
    refine tr_aload_n dX8_isBright_9 rfl ?_
    obtain ⟨a9, d10, ta9⟩ := rf12_3 hW0 ta0
    refine tr_getR dX8_isBright_10 fl8_15 (kR12 hW0 ta0) d10 ?_
    refine tr_iload_n dX8_isBright_13 rfl ?_
    refine q_zald dX8_isBright_14 (kR36 hW0 ta9) (ti_in (nR36 hW0 ta9) (by omega) (by omega)) ?_
    intro v11 c12
    have b13 := iv36 hW0 ta9 c12
    refine q_if_ne 27 dX8_isBright_15 (by decide) (fun h14 => ?_) (fun h14 => ?_)
    · skip
      refine q_iconst dX8_isBright_27 (by decide) ?_
      intro v15 h16
      refine tr_goto 32 dX8_isBright_28 (by decide) ?_
      exact tr_zret hZ dX8_isBright_32 rfl (ti_b01 (by omega) (by omega)) (by decide) (by decide) ⟨v15, rfl, rfl, rfl, rfl, rfl, rfl, rfl, (by omega), trivial⟩
    · skip
      refine tr_aload_n dX8_isBright_18 rfl ?_
      obtain ⟨a17, d18, ta17⟩ := rf12_4 hW0 ta0
      refine tr_getR dX8_isBright_19 fl8_18 (kR12 hW0 ta0) d18 ?_
      refine tr_iload_n dX8_isBright_22 rfl ?_
      refine q_zald dX8_isBright_23 (kR37 hW0 ta17) (ti_in (nR37 hW0 ta17) (by omega) (by omega)) ?_
      intro v19 c20
      have b21 := iv37 hW0 ta17 c20
      refine q_if_ne 31 dX8_isBright_24 (by decide) (fun h22 => ?_) (fun h22 => ?_)
      · skip
        refine q_iconst dX8_isBright_31 (by decide) ?_
        intro v23 h24
        exact tr_zret hZ dX8_isBright_32 rfl (ti_b01 (by omega) (by omega)) (by decide) (by decide) ⟨v23, rfl, rfl, rfl, rfl, rfl, rfl, rfl, (by omega), trivial⟩
      · skip
        refine q_iconst dX8_isBright_27 (by decide) ?_
        intro v25 h26
        refine tr_goto 32 dX8_isBright_28 (by decide) ?_
        exact tr_zret hZ dX8_isBright_32 rfl (ti_b01 (by omega) (by omega)) (by decide) (by decide) ⟨v25, rfl, rfl, rfl, rfl, rfl, rfl, rfl, (by omega), trivial⟩
def wi_X8_findLight : List Nat := [2559, 2623, 2687, 2751]
def wr_X8_findLight : List Nat := []
set_option maxHeartbeats 4000000 in
theorem k_X8_findLight {l : Launch} {T : Nat → Nat} {cn : Nat} {K N : Nat → Nat} {I0 : cz_I} {R0 : cz_R} {L0 : cz_L} {d : Int} (hW0 : Wf T cn K N I0 R0 d) {a0 : Nat} (ta0 : T a0 = 12) : ConE l mX8_findLight [.ref a0] cn K N I0 R0 L0 (ca_v (fun cn' K' N' I' R' L' => cn = cn' ∧ K = K' ∧ N = N' ∧ R0 = R' ∧ L0 = L' ∧ St T cn K N d wi_X8_findLight wr_X8_findLight I0 R0 I' R0 ∧ True)) := by
  refine ConE.of (by decide +kernel) rfl (Nat.le_of_ble_eq_true rfl) rfl (fun X hX hZ hE => ?_)
  subst hX
  have hS0 : St T cn K N d wi_X8_findLight wr_X8_findLight I0 R0 I0 R0 := St.rf0 hW0
  refine q_iconst dX8_findLight_0 (by decide) ?_
  intro v1 h2
  refine tr_istore_n dX8_findLight_1 (by decide) (by decide) ?_
  have lp9 : ∀ (fu : Nat) (ls : Nat → Option Value) (v3 : Int32) (I6 : cz_I), ls 0 = some (.ref a0) → ls 1 = some (.int v3) → St T cn K N d wi_X8_findLight wr_X8_findLight I0 R0 I6 R0 → 0 ≤ v3.toInt → (-v3.toInt + 2147483647).toNat < fu → Tr X mX8_findLight 2 ls [] cn K N I6 R0 L0 0 0 := by
    intro fu
    induction fu with
    | zero => intros; rename_i hz; exact absurd hz (Nat.not_lt_zero _)
    | succ fu ih9 =>
      intro ls v3 I6 hl4 hl5 hS7 g8 hm9
      refine tr_iload_n dX8_findLight_2 hl5 ?_
      refine tr_aload_n dX8_findLight_3 hl4 ?_
      obtain ⟨v11, c12⟩ : ∃ v, I0 a0 0 = v := ⟨_, rfl⟩
      have b13 := iv12_0 hW0 ta0 c12
      refine q_getI dX8_findLight_4 fl8_46 (kR12 hS7.1 ta0) ((hS7.cell ta0 (by decide +kernel)).trans c12) ?_
      refine q_icmp_ge 120 dX8_findLight_7 (by decide) (fun h14 => ?_) (fun h14 => ?_)
      · skip
        exact tr_vret hZ dX8_findLight_120 rfl (by decide) (by decide) ⟨rfl, rfl, rfl, rfl, rfl, rfl, hS7, trivial⟩
      · skip
        refine tr_aload_n dX8_findLight_10 hl4 ?_
        obtain ⟨a15, d16, ta15⟩ := rf12_6 hW0 ta0
        refine tr_getR dX8_findLight_11 fl8_25 (kR12 hS7.1 ta0) d16 ?_
        refine tr_iload_n dX8_findLight_14 hl5 ?_
        refine tr_aload_n dX8_findLight_15 hl4 ?_
        refine tr_iload_n dX8_findLight_16 hl5 ?_
        refine q_callVi hE (M' := mX8_isBright) (as := [_]) dX8_findLight_17 lk8_105 inX8_isBright seX8_isBright myX8_isBright (by decide) ⟨by decide, by decide⟩ rfl (kR12 hS7.1 ta0) (Nat.le_of_ble_eq_true rfl) rfl rfl (by decide) (by decide) (k_X8_isBright hS7.1 ta0 (by omega)) ?_
        rintro v21 cn' K' N' I17 R18 L19 ⟨rfl, rfl, rfl, rfl, rfl, rfl, h22, -⟩
        refine q_if_eq 39 dX8_findLight_20 (by decide) (fun h23 => ?_) (fun h23 => ?_)
        · skip
          refine q_iconst dX8_findLight_39 (by decide) ?_
          intro v24 h25
          refine q_iast dX8_findLight_40 (kR39 hS7.1 ta15) (ti_in (nR39 hS7.1 ta15) (by omega) (by omega)) hS7 ta15 (iokF rfl) rfl (by rfl) ?_
          intro I26 hS27 e29 f28
          refine tr_aload_n dX8_findLight_41 hl4 ?_
          obtain ⟨a30, d31, ta30⟩ := rf12_7 hW0 ta0
          refine tr_getR dX8_findLight_42 fl8_28 (kR12 hS27.1 ta0) d31 ?_
          refine tr_iload_n dX8_findLight_45 hl5 ?_
          refine tr_dup2 dX8_findLight_46 rfl rfl ?_
          refine q_iald dX8_findLight_47 (kR40 hS27.1 ta30) (ti_in (nR40 hS27.1 ta30) (by omega) (by omega)) ?_
          intro v32 c33
          refine tr_aload_n dX8_findLight_48 hl4 ?_
          refine tr_getR dX8_findLight_49 fl8_25 (kR12 hS27.1 ta0) d16 ?_
          refine tr_iload_n dX8_findLight_52 hl5 ?_
          refine q_iald dX8_findLight_53 (kR39 hS27.1 ta15) (ti_in (nR39 hS27.1 ta15) (by omega) (by omega)) ?_
          intro v34 c35
          refine q_ior dX8_findLight_54 ?_
          intro v36
          refine q_iast dX8_findLight_55 (kR40 hS27.1 ta30) (ti_in (nR40 hS27.1 ta30) (by omega) (by omega)) hS27 ta30 (iokF rfl) rfl (by rfl) ?_
          intro I37 hS38 e40 f39
          refine tr_aload_n dX8_findLight_56 hl4 ?_
          obtain ⟨a41, d42, ta41⟩ := rf12_8 hW0 ta0
          refine tr_getR dX8_findLight_57 fl8_31 (kR12 hS38.1 ta0) d42 ?_
          refine tr_iload_n dX8_findLight_60 hl5 ?_
          refine tr_iload_n dX8_findLight_61 hl5 ?_
          refine q_if_ne 69 dX8_findLight_62 (by decide) (fun h43 => ?_) (fun h43 => ?_)
          · skip
            refine tr_aload_n dX8_findLight_69 hl4 ?_
            refine tr_getR dX8_findLight_70 fl8_25 (kR12 hS38.1 ta0) d16 ?_
            refine tr_iload_n dX8_findLight_73 hl5 ?_
            refine q_iald dX8_findLight_74 (kR39 hS38.1 ta15) (ti_in (nR39 hS38.1 ta15) (by omega) (by omega)) ?_
            intro v44 c45
            refine tr_aload_n dX8_findLight_75 hl4 ?_
            refine tr_getR dX8_findLight_76 fl8_25 (kR12 hS38.1 ta0) d16 ?_
            refine tr_iload_n dX8_findLight_79 hl5 ?_
            refine q_iconst dX8_findLight_80 (by decide) ?_
            intro v46 h47
            refine q_isubE dX8_findLight_81 (by intros; omega) ?_
            intro v48 h49
            refine q_iald dX8_findLight_82 (kR39 hS38.1 ta15) (ti_in (nR39 hS38.1 ta15) (by omega) (by omega)) ?_
            intro v50 c51
            refine q_ixor dX8_findLight_83 ?_
            intro v52
            refine q_iast dX8_findLight_84 (kR41 hS38.1 ta41) (ti_in (nR41 hS38.1 ta41) (by omega) (by omega)) hS38 ta41 (iokF rfl) rfl (by rfl) ?_
            intro I53 hS54 e56 f55
            refine tr_aload_n dX8_findLight_85 hl4 ?_
            obtain ⟨a57, d58, ta57⟩ := rf12_9 hW0 ta0
            refine tr_getR dX8_findLight_86 fl8_34 (kR12 hS54.1 ta0) d58 ?_
            refine tr_iload_n dX8_findLight_89 hl5 ?_
            refine tr_iload_n dX8_findLight_90 hl5 ?_
            refine q_if_ne 98 dX8_findLight_91 (by decide) (fun h59 => ?_) (fun h59 => ?_)
            · skip
              refine tr_aload_n dX8_findLight_98 hl4 ?_
              refine tr_getR dX8_findLight_99 fl8_28 (kR12 hS54.1 ta0) d31 ?_
              refine tr_iload_n dX8_findLight_102 hl5 ?_
              refine q_iald dX8_findLight_103 (kR40 hS54.1 ta30) (ti_in (nR40 hS54.1 ta30) (by omega) (by omega)) ?_
              intro v60 c61
              refine tr_aload_n dX8_findLight_104 hl4 ?_
              refine tr_getR dX8_findLight_105 fl8_28 (kR12 hS54.1 ta0) d31 ?_
              refine tr_iload_n dX8_findLight_108 hl5 ?_
              refine q_iconst dX8_findLight_109 (by decide) ?_
              intro v62 h63
              refine q_isubE dX8_findLight_110 (by intros; omega) ?_
              intro v64 h65
              refine q_iald dX8_findLight_111 (kR40 hS54.1 ta30) (ti_in (nR40 hS54.1 ta30) (by omega) (by omega)) ?_
              intro v66 c67
              refine q_ixor dX8_findLight_112 ?_
              intro v68
              refine q_iast dX8_findLight_113 (kR42 hS54.1 ta57) (ti_in (nR42 hS54.1 ta57) (by omega) (by omega)) hS54 ta57 (iokF rfl) rfl (by rfl) ?_
              intro I69 hS70 e72 f71
              refine q_iincE dX8_findLight_114 hl5 (by decide) (by decide) (by intros; omega) ?_
              intro v73 h74
              refine tr_goto 2 dX8_findLight_117 (by decide) ?_
              exact ih9 _ v73 I69 hl4 rfl hS70 (by omega) (by omega)
            · skip
              exfalso; omega
          · skip
            refine q_iconst dX8_findLight_65 (by decide) ?_
            intro v75 h76
            refine tr_goto 84 dX8_findLight_66 (by decide) ?_
            refine q_iast dX8_findLight_84 (kR41 hS38.1 ta41) (ti_in (nR41 hS38.1 ta41) (by omega) (by omega)) hS38 ta41 (iokF rfl) rfl (by rfl) ?_
            intro I77 hS78 e80 f79
            refine tr_aload_n dX8_findLight_85 hl4 ?_
            obtain ⟨a81, d82, ta81⟩ := rf12_9 hW0 ta0
            refine tr_getR dX8_findLight_86 fl8_34 (kR12 hS78.1 ta0) d82 ?_
            refine tr_iload_n dX8_findLight_89 hl5 ?_
            refine tr_iload_n dX8_findLight_90 hl5 ?_
            refine q_if_ne 98 dX8_findLight_91 (by decide) (fun h83 => ?_) (fun h83 => ?_)
            · skip
              exfalso; omega
            · skip
              refine q_iconst dX8_findLight_94 (by decide) ?_
              intro v84 h85
              refine tr_goto 113 dX8_findLight_95 (by decide) ?_
              refine q_iast dX8_findLight_113 (kR42 hS78.1 ta81) (ti_in (nR42 hS78.1 ta81) (by omega) (by omega)) hS78 ta81 (iokF rfl) rfl (by rfl) ?_
              intro I86 hS87 e89 f88
              refine q_iincE dX8_findLight_114 hl5 (by decide) (by decide) (by intros; omega) ?_
              intro v90 h91
              refine tr_goto 2 dX8_findLight_117 (by decide) ?_
              exact ih9 _ v90 I86 hl4 rfl hS87 (by omega) (by omega)
        · skip
          refine tr_aload_n dX8_findLight_23 hl4 ?_
          obtain ⟨v92, c93⟩ : ∃ v, I0 a0 1 = v := ⟨_, rfl⟩
          refine q_getI dX8_findLight_24 fl8_50 (kR12 hS7.1 ta0) ((hS7.cell ta0 (by decide +kernel)).trans c93) ?_
          refine tr_aload_n dX8_findLight_27 hl4 ?_
          obtain ⟨a94, d95, ta94⟩ := rf12_5 hW0 ta0
          refine tr_getR dX8_findLight_28 fl8_21 (kR12 hS7.1 ta0) d95 ?_
          refine tr_iload_n dX8_findLight_31 hl5 ?_
          refine q_iald dX8_findLight_32 (kR38 hS7.1 ta94) (ti_in (nR38 hS7.1 ta94) (by omega) (by omega)) ?_
          intro v96 c97
          refine q_iconst dX8_findLight_33 (by decide) ?_
          intro v98 h99
          refine q_ixor dX8_findLight_34 ?_
          intro v100
          refine q_iand dX8_findLight_35 ?_
          intro v101
          refine tr_goto 40 dX8_findLight_36 (by decide) ?_
          refine q_iast dX8_findLight_40 (kR39 hS7.1 ta15) (ti_in (nR39 hS7.1 ta15) (by omega) (by omega)) hS7 ta15 (iokF rfl) rfl (by rfl) ?_
          intro I102 hS103 e105 f104
          refine tr_aload_n dX8_findLight_41 hl4 ?_
          obtain ⟨a106, d107, ta106⟩ := rf12_7 hW0 ta0
          refine tr_getR dX8_findLight_42 fl8_28 (kR12 hS103.1 ta0) d107 ?_
          refine tr_iload_n dX8_findLight_45 hl5 ?_
          refine tr_dup2 dX8_findLight_46 rfl rfl ?_
          refine q_iald dX8_findLight_47 (kR40 hS103.1 ta106) (ti_in (nR40 hS103.1 ta106) (by omega) (by omega)) ?_
          intro v108 c109
          refine tr_aload_n dX8_findLight_48 hl4 ?_
          refine tr_getR dX8_findLight_49 fl8_25 (kR12 hS103.1 ta0) d16 ?_
          refine tr_iload_n dX8_findLight_52 hl5 ?_
          refine q_iald dX8_findLight_53 (kR39 hS103.1 ta15) (ti_in (nR39 hS103.1 ta15) (by omega) (by omega)) ?_
          intro v110 c111
          refine q_ior dX8_findLight_54 ?_
          intro v112
          refine q_iast dX8_findLight_55 (kR40 hS103.1 ta106) (ti_in (nR40 hS103.1 ta106) (by omega) (by omega)) hS103 ta106 (iokF rfl) rfl (by rfl) ?_
          intro I113 hS114 e116 f115
          refine tr_aload_n dX8_findLight_56 hl4 ?_
          obtain ⟨a117, d118, ta117⟩ := rf12_8 hW0 ta0
          refine tr_getR dX8_findLight_57 fl8_31 (kR12 hS114.1 ta0) d118 ?_
          refine tr_iload_n dX8_findLight_60 hl5 ?_
          refine tr_iload_n dX8_findLight_61 hl5 ?_
          refine q_if_ne 69 dX8_findLight_62 (by decide) (fun h119 => ?_) (fun h119 => ?_)
          · skip
            refine tr_aload_n dX8_findLight_69 hl4 ?_
            refine tr_getR dX8_findLight_70 fl8_25 (kR12 hS114.1 ta0) d16 ?_
            refine tr_iload_n dX8_findLight_73 hl5 ?_
            refine q_iald dX8_findLight_74 (kR39 hS114.1 ta15) (ti_in (nR39 hS114.1 ta15) (by omega) (by omega)) ?_
            intro v120 c121
            refine tr_aload_n dX8_findLight_75 hl4 ?_
            refine tr_getR dX8_findLight_76 fl8_25 (kR12 hS114.1 ta0) d16 ?_
            refine tr_iload_n dX8_findLight_79 hl5 ?_
            refine q_iconst dX8_findLight_80 (by decide) ?_
            intro v122 h123
            refine q_isubE dX8_findLight_81 (by intros; omega) ?_
            intro v124 h125
            refine q_iald dX8_findLight_82 (kR39 hS114.1 ta15) (ti_in (nR39 hS114.1 ta15) (by omega) (by omega)) ?_
            intro v126 c127
            refine q_ixor dX8_findLight_83 ?_
            intro v128
            refine q_iast dX8_findLight_84 (kR41 hS114.1 ta117) (ti_in (nR41 hS114.1 ta117) (by omega) (by omega)) hS114 ta117 (iokF rfl) rfl (by rfl) ?_
            intro I129 hS130 e132 f131
            refine tr_aload_n dX8_findLight_85 hl4 ?_
            obtain ⟨a133, d134, ta133⟩ := rf12_9 hW0 ta0
            refine tr_getR dX8_findLight_86 fl8_34 (kR12 hS130.1 ta0) d134 ?_
            refine tr_iload_n dX8_findLight_89 hl5 ?_
            refine tr_iload_n dX8_findLight_90 hl5 ?_
            refine q_if_ne 98 dX8_findLight_91 (by decide) (fun h135 => ?_) (fun h135 => ?_)
            · skip
              refine tr_aload_n dX8_findLight_98 hl4 ?_
              refine tr_getR dX8_findLight_99 fl8_28 (kR12 hS130.1 ta0) d107 ?_
              refine tr_iload_n dX8_findLight_102 hl5 ?_
              refine q_iald dX8_findLight_103 (kR40 hS130.1 ta106) (ti_in (nR40 hS130.1 ta106) (by omega) (by omega)) ?_
              intro v136 c137
              refine tr_aload_n dX8_findLight_104 hl4 ?_
              refine tr_getR dX8_findLight_105 fl8_28 (kR12 hS130.1 ta0) d107 ?_
              refine tr_iload_n dX8_findLight_108 hl5 ?_
              refine q_iconst dX8_findLight_109 (by decide) ?_
              intro v138 h139
              refine q_isubE dX8_findLight_110 (by intros; omega) ?_
              intro v140 h141
              refine q_iald dX8_findLight_111 (kR40 hS130.1 ta106) (ti_in (nR40 hS130.1 ta106) (by omega) (by omega)) ?_
              intro v142 c143
              refine q_ixor dX8_findLight_112 ?_
              intro v144
              refine q_iast dX8_findLight_113 (kR42 hS130.1 ta133) (ti_in (nR42 hS130.1 ta133) (by omega) (by omega)) hS130 ta133 (iokF rfl) rfl (by rfl) ?_
              intro I145 hS146 e148 f147
              refine q_iincE dX8_findLight_114 hl5 (by decide) (by decide) (by intros; omega) ?_
              intro v149 h150
              refine tr_goto 2 dX8_findLight_117 (by decide) ?_
              exact ih9 _ v149 I145 hl4 rfl hS146 (by omega) (by omega)
            · skip
              exfalso; omega
          · skip
            refine q_iconst dX8_findLight_65 (by decide) ?_
            intro v151 h152
            refine tr_goto 84 dX8_findLight_66 (by decide) ?_
            refine q_iast dX8_findLight_84 (kR41 hS114.1 ta117) (ti_in (nR41 hS114.1 ta117) (by omega) (by omega)) hS114 ta117 (iokF rfl) rfl (by rfl) ?_
            intro I153 hS154 e156 f155
            refine tr_aload_n dX8_findLight_85 hl4 ?_
            obtain ⟨a157, d158, ta157⟩ := rf12_9 hW0 ta0
            refine tr_getR dX8_findLight_86 fl8_34 (kR12 hS154.1 ta0) d158 ?_
            refine tr_iload_n dX8_findLight_89 hl5 ?_
            refine tr_iload_n dX8_findLight_90 hl5 ?_
            refine q_if_ne 98 dX8_findLight_91 (by decide) (fun h159 => ?_) (fun h159 => ?_)
            · skip
              exfalso; omega
            · skip
              refine q_iconst dX8_findLight_94 (by decide) ?_
              intro v160 h161
              refine tr_goto 113 dX8_findLight_95 (by decide) ?_
              refine q_iast dX8_findLight_113 (kR42 hS154.1 ta157) (ti_in (nR42 hS154.1 ta157) (by omega) (by omega)) hS154 ta157 (iokF rfl) rfl (by rfl) ?_
              intro I162 hS163 e165 f164
              refine q_iincE dX8_findLight_114 hl5 (by decide) (by decide) (by intros; omega) ?_
              intro v166 h167
              refine tr_goto 2 dX8_findLight_117 (by decide) ?_
              exact ih9 _ v166 I162 hl4 rfl hS163 (by omega) (by omega)
  exact lp9 _ _ v1 I0 rfl rfl hS0 (by omega) (Nat.lt_succ_self _)
set_option maxHeartbeats 4000000 in
theorem k_X4_holds {l : Launch} {T : Nat → Nat} {cn : Nat} {K N : Nat → Nat} {I0 : cz_I} {R0 : cz_R} {L0 : cz_L} {d : Int} (hW0 : Wf T cn K N I0 R0 d) {a0 : Nat} (ta0 : T a0 = 6) {x1 : Int32} : ConE l mX4_holds [.ref a0, .int x1] cn K N I0 R0 L0 (ca_i (fun v cn' K' N' I' R' L' => cn = cn' ∧ K = K' ∧ N = N' ∧ I0 = I' ∧ R0 = R' ∧ L0 = L' ∧ (0 ≤ v.toInt ∧ v.toInt ≤ 1) ∧ True)) := by
  refine ConE.of (by decide +kernel) rfl (Nat.le_of_ble_eq_true rfl) rfl (fun X hX hZ hE => ?_)
  subst hX
  refine q_iconst dX4_holds_0 (by decide) ?_
  intro v1 h2
  refine tr_istore_n dX4_holds_1 (by decide) (by decide) ?_
  have lp8 : ∀ (fu : Nat) (ls : Nat → Option Value) (v3 : Int32), ls 0 = some (.ref a0) → ls 1 = some (.int x1) → ls 2 = some (.int v3) → 0 ≤ v3.toInt → (-v3.toInt + 2147483647).toNat < fu → Tr X mX4_holds 2 ls [] cn K N I0 R0 L0 0 0 := by
    intro fu
    induction fu with
    | zero => intros; rename_i hz; exact absurd hz (Nat.not_lt_zero _)
    | succ fu ih8 =>
      intro ls v3 hl4 hl5 hl6 g7 hm8
      refine tr_iload_n dX4_holds_2 hl6 ?_
      refine tr_aload_n dX4_holds_3 hl4 ?_
      obtain ⟨v10, c11⟩ : ∃ v, I0 a0 0 = v := ⟨_, rfl⟩
      have b12 := iv6_0 hW0 ta0 c11
      refine q_getI dX4_holds_4 fl4_15 (kR6 hW0 ta0) c11 ?_
      refine q_icmp_ge 28 dX4_holds_7 (by decide) (fun h13 => ?_) (fun h13 => ?_)
      · skip
        refine q_iconst dX4_holds_28 (by decide) ?_
        intro v14 h15
        exact tr_zret hZ dX4_holds_29 rfl (ti_b01 (by omega) (by omega)) (by decide) (by decide) ⟨v14, rfl, rfl, rfl, rfl, rfl, rfl, rfl, (by omega), trivial⟩
      · skip
        refine tr_aload_n dX4_holds_10 hl4 ?_
        obtain ⟨a16, d17, ta16⟩ := rf6_1 hW0 ta0
        refine tr_getR dX4_holds_11 fl4_9 (kR6 hW0 ta0) d17 ?_
        refine tr_iload_n dX4_holds_14 hl6 ?_
        refine q_iald dX4_holds_15 (kR24 hW0 ta16) (ti_in (nR24 hW0 ta16) (by omega) (by omega)) ?_
        intro v18 c19
        have b20 := iv24 hW0 ta16 c19
        refine tr_iload_n dX4_holds_16 hl5 ?_
        refine q_icmp_ne 22 dX4_holds_17 (by decide) (fun h21 => ?_) (fun h21 => ?_)
        · skip
          refine q_iincE dX4_holds_22 hl6 (by decide) (by decide) (by intros; omega) ?_
          intro v22 h23
          refine tr_goto 2 dX4_holds_25 (by decide) ?_
          exact ih8 _ v22 hl4 hl5 rfl (by omega) (by omega)
        · skip
          refine q_iconst dX4_holds_20 (by decide) ?_
          intro v24 h25
          exact tr_zret hZ dX4_holds_21 rfl (ti_b01 (by omega) (by omega)) (by decide) (by decide) ⟨v24, rfl, rfl, rfl, rfl, rfl, rfl, rfl, (by omega), trivial⟩
  exact lp8 _ _ v1 rfl rfl rfl (by omega) (Nat.lt_succ_self _)
def wi_X8_findStirs : List Nat := [778, 2815]
def wr_X8_findStirs : List Nat := []
set_option maxHeartbeats 4000000 in
theorem k_X8_findStirs {l : Launch} {T : Nat → Nat} {cn : Nat} {K N : Nat → Nat} {I0 : cz_I} {R0 : cz_R} {L0 : cz_L} {d : Int} (hW0 : Wf T cn K N I0 R0 d) {a0 : Nat} (ta0 : T a0 = 12) {a1 : Nat} (ta1 : T a1 = 6) : ConE l mX8_findStirs [.ref a0, .ref a1] cn K N I0 R0 L0 (ca_v (fun cn' K' N' I' R' L' => cn = cn' ∧ K = K' ∧ N = N' ∧ R0 = R' ∧ L0 = L' ∧ St T cn K N d wi_X8_findStirs wr_X8_findStirs I0 R0 I' R0 ∧ True)) := by
  refine ConE.of (by decide +kernel) rfl (Nat.le_of_ble_eq_true rfl) rfl (fun X hX hZ hE => ?_)
  subst hX
  have hS0 : St T cn K N d wi_X8_findStirs wr_X8_findStirs I0 R0 I0 R0 := St.rf0 hW0
  refine tr_aload_n dX8_findStirs_0 rfl ?_
  refine q_iconst dX8_findStirs_1 (by decide) ?_
  intro v1 h2
  refine q_putI dX8_findStirs_2 fl8_109 (kR12 hS0.1 ta0) (Or.inl rfl) hS0 ta0 (by show (0 : Int) ≤ v1.toInt ∧ v1.toInt ≤ (240 : Int); omega) rfl (by decide +kernel) ?_
  intro I3 hS4 e5 f6
  refine q_iconst dX8_findStirs_5 (by decide) ?_
  intro v7 h8
  refine tr_istore_n dX8_findStirs_6 (by decide) (by decide) ?_
  have lp19 : ∀ (fu : Nat) (ls : Nat → Option Value) (v9 : Int32) (I13 : cz_I) (v15 : Int32), ls 0 = some (.ref a0) → ls 1 = some (.ref a1) → ls 2 = some (.int v9) → St T cn K N d wi_X8_findStirs wr_X8_findStirs I0 R0 I13 R0 → I13 a0 10 = v15 → v15.toInt ≤ v9.toInt → 0 ≤ v9.toInt → (-v9.toInt + 2147483647).toNat < fu → Tr X mX8_findStirs 7 ls [] cn K N I13 R0 L0 0 0 := by
    intro fu
    induction fu with
    | zero => intros; rename_i hz; exact absurd hz (Nat.not_lt_zero _)
    | succ fu ih19 =>
      intro ls v9 I13 v15 hl10 hl11 hl12 hS14 c16 g17 g18 hm19
      have b21 := iv12_10 hS14.1 ta0 c16
      refine tr_iload_n dX8_findStirs_7 hl12 ?_
      refine tr_aload_n dX8_findStirs_8 hl10 ?_
      obtain ⟨v22, c23⟩ : ∃ v, I0 a0 0 = v := ⟨_, rfl⟩
      have b24 := iv12_0 hW0 ta0 c23
      refine q_getI dX8_findStirs_9 fl8_46 (kR12 hS14.1 ta0) ((hS14.cell ta0 (by decide +kernel)).trans c23) ?_
      refine q_icmp_ge 76 dX8_findStirs_12 (by decide) (fun h25 => ?_) (fun h25 => ?_)
      · skip
        exact tr_vret hZ dX8_findStirs_76 rfl (by decide) (by decide) ⟨rfl, rfl, rfl, rfl, rfl, rfl, hS14, trivial⟩
      · skip
        refine tr_aload_n dX8_findStirs_15 hl10 ?_
        obtain ⟨a26, d27, ta26⟩ := rf12_8 hW0 ta0
        refine tr_getR dX8_findStirs_16 fl8_31 (kR12 hS14.1 ta0) d27 ?_
        refine tr_iload_n dX8_findStirs_19 hl12 ?_
        refine q_iald dX8_findStirs_20 (kR41 hS14.1 ta26) (ti_in (nR41 hS14.1 ta26) (by omega) (by omega)) ?_
        intro v28 c29
        refine q_if_ne 50 dX8_findStirs_21 (by decide) (fun h30 => ?_) (fun h30 => ?_)
        · skip
          refine tr_aload_n dX8_findStirs_50 hl10 ?_
          obtain ⟨a31, d32, ta31⟩ := rf12_11 hW0 ta0
          refine tr_getR dX8_findStirs_51 fl8_37 (kR12 hS14.1 ta0) d32 ?_
          refine tr_aload_n dX8_findStirs_54 hl10 ?_
          refine q_getI dX8_findStirs_55 fl8_109 (kR12 hS14.1 ta0) c16 ?_
          refine tr_iload_n dX8_findStirs_58 hl12 ?_
          refine q_iast dX8_findStirs_59 (kR43 hS14.1 ta31) (ti_in (nR43 hS14.1 ta31) (by omega) (by omega)) hS14 ta31 (by show (0 : Int) ≤ v9.toInt ∧ v9.toInt ≤ (239 : Int); omega) rfl (by rfl) ?_
          intro I33 hS34 e36 f35
          have c37 : I33 a0 10 = v15 := (f35 _ _ (fun q => by have z := ta0; rw [q.1, ta31] at z; exact absurd z (by decide))).trans c16
          refine tr_aload_n dX8_findStirs_60 hl10 ?_
          refine tr_dup dX8_findStirs_61 rfl ?_
          refine q_getI dX8_findStirs_62 fl8_109 (kR12 hS34.1 ta0) c37 ?_
          refine q_iconst dX8_findStirs_65 (by decide) ?_
          intro v38 h39
          refine q_iaddE dX8_findStirs_66 (by intros; omega) ?_
          intro v40 h41
          refine q_putI dX8_findStirs_67 fl8_109 (kR12 hS34.1 ta0) (Or.inl rfl) hS34 ta0 (by show (0 : Int) ≤ v40.toInt ∧ v40.toInt ≤ (240 : Int); omega) rfl (by decide +kernel) ?_
          intro I42 hS43 e44 f45
          refine q_iincE dX8_findStirs_70 hl12 (by decide) (by decide) (by intros; omega) ?_
          intro v46 h47
          refine tr_goto 7 dX8_findStirs_73 (by decide) ?_
          exact ih19 _ v46 I42 v40 hl10 hl11 rfl hS43 e44 (by omega) (by omega) (by omega)
        · skip
          refine tr_aload_n dX8_findStirs_24 hl10 ?_
          obtain ⟨a48, d49, ta48⟩ := rf12_9 hW0 ta0
          refine tr_getR dX8_findStirs_25 fl8_34 (kR12 hS14.1 ta0) d49 ?_
          refine tr_iload_n dX8_findStirs_28 hl12 ?_
          refine q_iald dX8_findStirs_29 (kR42 hS14.1 ta48) (ti_in (nR42 hS14.1 ta48) (by omega) (by omega)) ?_
          intro v50 c51
          refine q_if_ne 50 dX8_findStirs_30 (by decide) (fun h52 => ?_) (fun h52 => ?_)
          · skip
            refine tr_aload_n dX8_findStirs_50 hl10 ?_
            obtain ⟨a53, d54, ta53⟩ := rf12_11 hW0 ta0
            refine tr_getR dX8_findStirs_51 fl8_37 (kR12 hS14.1 ta0) d54 ?_
            refine tr_aload_n dX8_findStirs_54 hl10 ?_
            refine q_getI dX8_findStirs_55 fl8_109 (kR12 hS14.1 ta0) c16 ?_
            refine tr_iload_n dX8_findStirs_58 hl12 ?_
            refine q_iast dX8_findStirs_59 (kR43 hS14.1 ta53) (ti_in (nR43 hS14.1 ta53) (by omega) (by omega)) hS14 ta53 (by show (0 : Int) ≤ v9.toInt ∧ v9.toInt ≤ (239 : Int); omega) rfl (by rfl) ?_
            intro I55 hS56 e58 f57
            have c59 : I55 a0 10 = v15 := (f57 _ _ (fun q => by have z := ta0; rw [q.1, ta53] at z; exact absurd z (by decide))).trans c16
            refine tr_aload_n dX8_findStirs_60 hl10 ?_
            refine tr_dup dX8_findStirs_61 rfl ?_
            refine q_getI dX8_findStirs_62 fl8_109 (kR12 hS56.1 ta0) c59 ?_
            refine q_iconst dX8_findStirs_65 (by decide) ?_
            intro v60 h61
            refine q_iaddE dX8_findStirs_66 (by intros; omega) ?_
            intro v62 h63
            refine q_putI dX8_findStirs_67 fl8_109 (kR12 hS56.1 ta0) (Or.inl rfl) hS56 ta0 (by show (0 : Int) ≤ v62.toInt ∧ v62.toInt ≤ (240 : Int); omega) rfl (by decide +kernel) ?_
            intro I64 hS65 e66 f67
            refine q_iincE dX8_findStirs_70 hl12 (by decide) (by decide) (by intros; omega) ?_
            intro v68 h69
            refine tr_goto 7 dX8_findStirs_73 (by decide) ?_
            exact ih19 _ v68 I64 v62 hl10 hl11 rfl hS65 e66 (by omega) (by omega) (by omega)
          · skip
            refine tr_aload_n dX8_findStirs_33 hl10 ?_
            obtain ⟨a70, d71, ta70⟩ := rf12_3 hW0 ta0
            refine tr_getR dX8_findStirs_34 fl8_15 (kR12 hS14.1 ta0) d71 ?_
            refine tr_iload_n dX8_findStirs_37 hl12 ?_
            refine q_zald dX8_findStirs_38 (kR36 hS14.1 ta70) (ti_in (nR36 hS14.1 ta70) (by omega) (by omega)) ?_
            intro v72 c73
            have b74 := iv36 hS14.1 ta70 c73
            refine q_if_ne 50 dX8_findStirs_39 (by decide) (fun h75 => ?_) (fun h75 => ?_)
            · skip
              refine tr_aload_n dX8_findStirs_50 hl10 ?_
              obtain ⟨a76, d77, ta76⟩ := rf12_11 hW0 ta0
              refine tr_getR dX8_findStirs_51 fl8_37 (kR12 hS14.1 ta0) d77 ?_
              refine tr_aload_n dX8_findStirs_54 hl10 ?_
              refine q_getI dX8_findStirs_55 fl8_109 (kR12 hS14.1 ta0) c16 ?_
              refine tr_iload_n dX8_findStirs_58 hl12 ?_
              refine q_iast dX8_findStirs_59 (kR43 hS14.1 ta76) (ti_in (nR43 hS14.1 ta76) (by omega) (by omega)) hS14 ta76 (by show (0 : Int) ≤ v9.toInt ∧ v9.toInt ≤ (239 : Int); omega) rfl (by rfl) ?_
              intro I78 hS79 e81 f80
              have c82 : I78 a0 10 = v15 := (f80 _ _ (fun q => by have z := ta0; rw [q.1, ta76] at z; exact absurd z (by decide))).trans c16
              refine tr_aload_n dX8_findStirs_60 hl10 ?_
              refine tr_dup dX8_findStirs_61 rfl ?_
              refine q_getI dX8_findStirs_62 fl8_109 (kR12 hS79.1 ta0) c82 ?_
              refine q_iconst dX8_findStirs_65 (by decide) ?_
              intro v83 h84
              refine q_iaddE dX8_findStirs_66 (by intros; omega) ?_
              intro v85 h86
              refine q_putI dX8_findStirs_67 fl8_109 (kR12 hS79.1 ta0) (Or.inl rfl) hS79 ta0 (by show (0 : Int) ≤ v85.toInt ∧ v85.toInt ≤ (240 : Int); omega) rfl (by decide +kernel) ?_
              intro I87 hS88 e89 f90
              refine q_iincE dX8_findStirs_70 hl12 (by decide) (by decide) (by intros; omega) ?_
              intro v91 h92
              refine tr_goto 7 dX8_findStirs_73 (by decide) ?_
              exact ih19 _ v91 I87 v85 hl10 hl11 rfl hS88 e89 (by omega) (by omega) (by omega)
            · skip
              refine tr_aload_n dX8_findStirs_42 hl11 ?_
              refine tr_iload_n dX8_findStirs_43 hl12 ?_
              refine q_callVi hE (M' := mX4_holds) (as := [_]) dX8_findStirs_44 lk8_112 inX4_holds seX4_holds myX4_holds (by decide) ⟨by decide, by decide⟩ rfl (kR6 hS14.1 ta1) (Nat.le_of_ble_eq_true rfl) rfl rfl (by decide) (by decide) (k_X4_holds hS14.1 ta1) ?_
              rintro v97 cn' K' N' I93 R94 L95 ⟨rfl, rfl, rfl, rfl, rfl, rfl, h98, -⟩
              refine q_if_eq 70 dX8_findStirs_47 (by decide) (fun h99 => ?_) (fun h99 => ?_)
              · skip
                refine q_iincE dX8_findStirs_70 hl12 (by decide) (by decide) (by intros; omega) ?_
                intro v100 h101
                refine tr_goto 7 dX8_findStirs_73 (by decide) ?_
                exact ih19 _ v100 I13 v15 hl10 hl11 rfl hS14 c16 (by omega) (by omega) (by omega)
              · skip
                refine tr_aload_n dX8_findStirs_50 hl10 ?_
                obtain ⟨a102, d103, ta102⟩ := rf12_11 hW0 ta0
                refine tr_getR dX8_findStirs_51 fl8_37 (kR12 hS14.1 ta0) d103 ?_
                refine tr_aload_n dX8_findStirs_54 hl10 ?_
                refine q_getI dX8_findStirs_55 fl8_109 (kR12 hS14.1 ta0) c16 ?_
                refine tr_iload_n dX8_findStirs_58 hl12 ?_
                refine q_iast dX8_findStirs_59 (kR43 hS14.1 ta102) (ti_in (nR43 hS14.1 ta102) (by omega) (by omega)) hS14 ta102 (by show (0 : Int) ≤ v9.toInt ∧ v9.toInt ≤ (239 : Int); omega) rfl (by rfl) ?_
                intro I104 hS105 e107 f106
                have c108 : I104 a0 10 = v15 := (f106 _ _ (fun q => by have z := ta0; rw [q.1, ta102] at z; exact absurd z (by decide))).trans c16
                refine tr_aload_n dX8_findStirs_60 hl10 ?_
                refine tr_dup dX8_findStirs_61 rfl ?_
                refine q_getI dX8_findStirs_62 fl8_109 (kR12 hS105.1 ta0) c108 ?_
                refine q_iconst dX8_findStirs_65 (by decide) ?_
                intro v109 h110
                refine q_iaddE dX8_findStirs_66 (by intros; omega) ?_
                intro v111 h112
                refine q_putI dX8_findStirs_67 fl8_109 (kR12 hS105.1 ta0) (Or.inl rfl) hS105 ta0 (by show (0 : Int) ≤ v111.toInt ∧ v111.toInt ≤ (240 : Int); omega) rfl (by decide +kernel) ?_
                intro I113 hS114 e115 f116
                refine q_iincE dX8_findStirs_70 hl12 (by decide) (by decide) (by intros; omega) ?_
                intro v117 h118
                refine tr_goto 7 dX8_findStirs_73 (by decide) ?_
                exact ih19 _ v117 I113 v111 hl10 hl11 rfl hS114 e115 (by omega) (by omega) (by omega)
  exact lp19 _ _ v7 I3 v1 rfl rfl rfl hS4 e5 (by omega) (by omega) (Nat.lt_succ_self _)
def wi_X8_layCloud : List Nat := [2431]
def wr_X8_layCloud : List Nat := []
set_option maxHeartbeats 4000000 in
theorem k_X8_layCloud {l : Launch} {T : Nat → Nat} {cn : Nat} {K N : Nat → Nat} {I0 : cz_I} {R0 : cz_R} {L0 : cz_L} {d : Int} (hW0 : Wf T cn K N I0 R0 d) {a0 : Nat} (ta0 : T a0 = 12) {x1 : Int32} (hx1 : 0 ≤ x1.toInt ∧ x1.toInt ≤ 240) {x2 : Int32} (hx2 : 0 ≤ x2.toInt ∧ x2.toInt ≤ 240) : ConE l mX8_layCloud [.ref a0, .int x1, .int x2] cn K N I0 R0 L0 (ca_v (fun cn' K' N' I' R' L' => cn = cn' ∧ K = K' ∧ N = N' ∧ R0 = R' ∧ L0 = L' ∧ St T cn K N d wi_X8_layCloud wr_X8_layCloud I0 R0 I' R0 ∧ True)) := by
  refine ConE.of (by decide +kernel) rfl (Nat.le_of_ble_eq_true rfl) rfl (fun X hX hZ hE => ?_)
  subst hX
  have hS0 : St T cn K N d wi_X8_layCloud wr_X8_layCloud I0 R0 I0 R0 := St.rf0 hW0
  refine tr_iload_n dX8_layCloud_0 rfl ?_
  refine tr_istore_n dX8_layCloud_1 (by decide) (by decide) ?_
  have lp9 : ∀ (fu : Nat) (ls : Nat → Option Value) (v1 : Int32) (I6 : cz_I), ls 0 = some (.ref a0) → ls 1 = some (.int x1) → ls 2 = some (.int x2) → ls 3 = some (.int v1) → St T cn K N d wi_X8_layCloud wr_X8_layCloud I0 R0 I6 R0 → 0 ≤ v1.toInt → (-v1.toInt + 2147483647).toNat < fu → Tr X mX8_layCloud 2 ls [] cn K N I6 R0 L0 0 0 := by
    intro fu
    induction fu with
    | zero => intros; rename_i hz; exact absurd hz (Nat.not_lt_zero _)
    | succ fu ih9 =>
      intro ls v1 I6 hl2 hl3 hl4 hl5 hS7 g8 hm9
      refine tr_iload_n dX8_layCloud_2 hl5 ?_
      refine tr_iload_n dX8_layCloud_3 hl4 ?_
      refine q_icmp_ge 20 dX8_layCloud_4 (by decide) (fun h11 => ?_) (fun h11 => ?_)
      · skip
        exact tr_vret hZ dX8_layCloud_20 rfl (by decide) (by decide) ⟨rfl, rfl, rfl, rfl, rfl, rfl, hS7, trivial⟩
      · skip
        refine tr_aload_n dX8_layCloud_7 hl2 ?_
        obtain ⟨a12, d13, ta12⟩ := rf12_4 hW0 ta0
        refine tr_getR dX8_layCloud_8 fl8_18 (kR12 hS7.1 ta0) d13 ?_
        refine tr_iload_n dX8_layCloud_11 hl5 ?_
        refine q_iconst dX8_layCloud_12 (by decide) ?_
        intro v14 h15
        refine q_zast dX8_layCloud_13 (kR37 hS7.1 ta12) (ti_in (nR37 hS7.1 ta12) (by omega) (by omega)) hS7 ta12 (by omega) rfl rfl (by rfl) ?_
        intro I16 hS17 f18
        refine q_iincE dX8_layCloud_14 hl5 (by decide) (by decide) (by intros; omega) ?_
        intro v20 h21
        refine tr_goto 2 dX8_layCloud_17 (by decide) ?_
        exact ih9 _ v20 I16 hl2 hl3 hl4 rfl hS17 (by omega) (by omega)
  exact lp9 _ _ x1 I0 rfl rfl rfl rfl hS0 (by omega) (Nat.lt_succ_self _)
def wi_X8_layEvent : List Nat := [2303, 2367, 2431, 2495, 2623]
def wr_X8_layEvent : List Nat := []
set_option maxHeartbeats 4000000 in
theorem k_X8_layEvent {l : Launch} {T : Nat → Nat} {cn : Nat} {K N : Nat → Nat} {I0 : cz_I} {R0 : cz_R} {L0 : cz_L} {d : Int} (hW0 : Wf T cn K N I0 R0 d) {a0 : Nat} (ta0 : T a0 = 12) {a1 : Nat} (ta1 : T a1 = 3) : ConE l mX8_layEvent [.ref a0, .ref a1] cn K N I0 R0 L0 (ca_v (fun cn' K' N' I' R' L' => cn = cn' ∧ K = K' ∧ N = N' ∧ R0 = R' ∧ L0 = L' ∧ St T cn K N d wi_X8_layEvent wr_X8_layEvent I0 R0 I' R0 ∧ True)) := by
  refine ConE.of (by decide +kernel) rfl (Nat.le_of_ble_eq_true rfl) rfl (fun X hX hZ hE => ?_)
  subst hX
  have hS0 : St T cn K N d wi_X8_layEvent wr_X8_layEvent I0 R0 I0 R0 := St.rf0 hW0
  refine tr_aload_n dX8_layEvent_0 rfl ?_
  obtain ⟨v1, c2⟩ : ∃ v, I0 a1 2 = v := ⟨_, rfl⟩
  have b3 := iv3_2 hW0 ta1 c2
  refine q_getI dX8_layEvent_1 fl8_93 (kR3 hS0.1 ta1) c2 ?_
  refine tr_istore_n dX8_layEvent_4 (by decide) (by decide) ?_
  have lp11 : ∀ (fu : Nat) (ls : Nat → Option Value) (v4 : Int32) (I8 : cz_I), ls 0 = some (.ref a0) → ls 1 = some (.ref a1) → ls 2 = some (.int v4) → St T cn K N d wi_X8_layEvent wr_X8_layEvent I0 R0 I8 R0 → 0 ≤ v4.toInt → (-v4.toInt + 2147483647).toNat < fu → Tr X mX8_layEvent 5 ls [] cn K N I8 R0 L0 0 0 := by
    intro fu
    induction fu with
    | zero => intros; rename_i hz; exact absurd hz (Nat.not_lt_zero _)
    | succ fu ih11 =>
      intro ls v4 I8 hl5 hl6 hl7 hS9 g10 hm11
      refine tr_iload_n dX8_layEvent_5 hl7 ?_
      refine tr_aload_n dX8_layEvent_6 hl6 ?_
      obtain ⟨v13, c14⟩ : ∃ v, I0 a1 3 = v := ⟨_, rfl⟩
      have b15 := iv3_3 hW0 ta1 c14
      refine q_getI dX8_layEvent_7 fl8_97 (kR3 hS9.1 ta1) ((hS9.cell ta1 (by decide +kernel)).trans c14) ?_
      refine q_icmp_ge 117 dX8_layEvent_10 (by decide) (fun h16 => ?_) (fun h16 => ?_)
      · skip
        exact tr_vret hZ dX8_layEvent_117 rfl (by decide) (by decide) ⟨rfl, rfl, rfl, rfl, rfl, rfl, hS9, trivial⟩
      · skip
        refine tr_aload_n dX8_layEvent_13 hl6 ?_
        obtain ⟨v17, c18⟩ : ∃ v, I0 a1 0 = v := ⟨_, rfl⟩
        refine q_getI dX8_layEvent_14 fl8_99 (kR3 hS9.1 ta1) ((hS9.cell ta1 (by decide +kernel)).trans c18) ?_
        by_cases h19 : v17.toInt = 0
        · skip
          refine tr_tabIn (off := 31) 48 dX8_layEvent_17 (by omega) (by omega) (by rw [h19]; decide +kernel) (by decide) ?_
          refine tr_aload_n dX8_layEvent_48 hl5 ?_
          obtain ⟨a20, d21, ta20⟩ := rf12_4 hW0 ta0
          refine tr_getR dX8_layEvent_49 fl8_18 (kR12 hS9.1 ta0) d21 ?_
          refine tr_iload_n dX8_layEvent_52 hl7 ?_
          refine q_iconst dX8_layEvent_53 (by decide) ?_
          intro v22 h23
          refine q_zast dX8_layEvent_54 (kR37 hS9.1 ta20) (ti_in (nR37 hS9.1 ta20) (by omega) (by omega)) hS9 ta20 (by omega) rfl rfl (by rfl) ?_
          intro I24 hS25 f26
          refine tr_goto 111 dX8_layEvent_55 (by decide) ?_
          refine q_iincE dX8_layEvent_111 hl7 (by decide) (by decide) (by intros; omega) ?_
          intro v28 h29
          refine tr_goto 5 dX8_layEvent_114 (by decide) ?_
          exact ih11 _ v28 I24 hl5 hl6 rfl hS25 (by omega) (by omega)
        · skip
          by_cases h30 : v17.toInt = 1
          · skip
            refine tr_tabIn (off := 41) 58 dX8_layEvent_17 (by omega) (by omega) (by rw [h30]; decide +kernel) (by decide) ?_
            refine tr_aload_n dX8_layEvent_58 hl5 ?_
            obtain ⟨a31, d32, ta31⟩ := rf12_2 hW0 ta0
            refine tr_getR dX8_layEvent_59 fl8_9 (kR12 hS9.1 ta0) d32 ?_
            refine tr_iload_n dX8_layEvent_62 hl7 ?_
            refine q_iconst dX8_layEvent_63 (by decide) ?_
            intro v33 h34
            refine q_zast dX8_layEvent_64 (kR35 hS9.1 ta31) (ti_in (nR35 hS9.1 ta31) (by omega) (by omega)) hS9 ta31 (by omega) rfl rfl (by rfl) ?_
            intro I35 hS36 f37
            refine tr_goto 111 dX8_layEvent_65 (by decide) ?_
            refine q_iincE dX8_layEvent_111 hl7 (by decide) (by decide) (by intros; omega) ?_
            intro v39 h40
            refine tr_goto 5 dX8_layEvent_114 (by decide) ?_
            exact ih11 _ v39 I35 hl5 hl6 rfl hS36 (by omega) (by omega)
          · skip
            by_cases h41 : v17.toInt = 2
            · skip
              refine tr_tabIn (off := 51) 68 dX8_layEvent_17 (by omega) (by omega) (by rw [h41]; decide +kernel) (by decide) ?_
              refine tr_aload_n dX8_layEvent_68 hl5 ?_
              obtain ⟨a42, d43, ta42⟩ := rf12_7 hW0 ta0
              refine tr_getR dX8_layEvent_69 fl8_28 (kR12 hS9.1 ta0) d43 ?_
              refine tr_iload_n dX8_layEvent_72 hl7 ?_
              refine tr_dup2 dX8_layEvent_73 rfl rfl ?_
              refine q_iald dX8_layEvent_74 (kR40 hS9.1 ta42) (ti_in (nR40 hS9.1 ta42) (by omega) (by omega)) ?_
              intro v44 c45
              refine q_iconst dX8_layEvent_75 (by decide) ?_
              intro v46 h47
              refine tr_aload_n dX8_layEvent_76 hl6 ?_
              obtain ⟨v48, c49⟩ : ∃ v, I0 a1 1 = v := ⟨_, rfl⟩
              refine q_getI dX8_layEvent_77 fl8_102 (kR3 hS9.1 ta1) ((hS9.cell ta1 (by decide +kernel)).trans c49) ?_
              refine q_ishl dX8_layEvent_80 ?_
              intro v50
              refine q_ior dX8_layEvent_81 ?_
              intro v51
              refine q_iast dX8_layEvent_82 (kR40 hS9.1 ta42) (ti_in (nR40 hS9.1 ta42) (by omega) (by omega)) hS9 ta42 (iokF rfl) rfl (by rfl) ?_
              intro I52 hS53 e55 f54
              refine tr_goto 111 dX8_layEvent_83 (by decide) ?_
              refine q_iincE dX8_layEvent_111 hl7 (by decide) (by decide) (by intros; omega) ?_
              intro v56 h57
              refine tr_goto 5 dX8_layEvent_114 (by decide) ?_
              exact ih11 _ v56 I52 hl5 hl6 rfl hS53 (by omega) (by omega)
            · skip
              by_cases h58 : v17.toInt = 3
              · skip
                refine tr_tabIn (off := 69) 86 dX8_layEvent_17 (by omega) (by omega) (by rw [h58]; decide +kernel) (by decide) ?_
                refine tr_aload_n dX8_layEvent_86 hl5 ?_
                obtain ⟨a59, d60, ta59⟩ := rf12_5 hW0 ta0
                refine tr_getR dX8_layEvent_87 fl8_21 (kR12 hS9.1 ta0) d60 ?_
                refine tr_iload_n dX8_layEvent_90 hl7 ?_
                refine tr_dup2 dX8_layEvent_91 rfl rfl ?_
                refine q_iald dX8_layEvent_92 (kR38 hS9.1 ta59) (ti_in (nR38 hS9.1 ta59) (by omega) (by omega)) ?_
                intro v61 c62
                refine q_iconst dX8_layEvent_93 (by decide) ?_
                intro v63 h64
                refine tr_aload_n dX8_layEvent_94 hl6 ?_
                obtain ⟨v65, c66⟩ : ∃ v, I0 a1 1 = v := ⟨_, rfl⟩
                refine q_getI dX8_layEvent_95 fl8_102 (kR3 hS9.1 ta1) ((hS9.cell ta1 (by decide +kernel)).trans c66) ?_
                refine q_ishl dX8_layEvent_98 ?_
                intro v67
                refine q_ior dX8_layEvent_99 ?_
                intro v68
                refine q_iast dX8_layEvent_100 (kR38 hS9.1 ta59) (ti_in (nR38 hS9.1 ta59) (by omega) (by omega)) hS9 ta59 (iokF rfl) rfl (by rfl) ?_
                intro I69 hS70 e72 f71
                refine tr_goto 111 dX8_layEvent_101 (by decide) ?_
                refine q_iincE dX8_layEvent_111 hl7 (by decide) (by decide) (by intros; omega) ?_
                intro v73 h74
                refine tr_goto 5 dX8_layEvent_114 (by decide) ?_
                exact ih11 _ v73 I69 hl5 hl6 rfl hS70 (by omega) (by omega)
              · skip
                refine tr_tabOut 104 dX8_layEvent_17 (by omega) (by decide) ?_
                refine tr_aload_n dX8_layEvent_104 hl5 ?_
                obtain ⟨a75, d76, ta75⟩ := rf12_3 hW0 ta0
                refine tr_getR dX8_layEvent_105 fl8_15 (kR12 hS9.1 ta0) d76 ?_
                refine tr_iload_n dX8_layEvent_108 hl7 ?_
                refine q_iconst dX8_layEvent_109 (by decide) ?_
                intro v77 h78
                refine q_zast dX8_layEvent_110 (kR36 hS9.1 ta75) (ti_in (nR36 hS9.1 ta75) (by omega) (by omega)) hS9 ta75 (by omega) rfl rfl (by rfl) ?_
                intro I79 hS80 f81
                refine q_iincE dX8_layEvent_111 hl7 (by decide) (by decide) (by intros; omega) ?_
                intro v83 h84
                refine tr_goto 5 dX8_layEvent_114 (by decide) ?_
                exact ih11 _ v83 I79 hl5 hl6 rfl hS80 (by omega) (by omega)
  exact lp11 _ _ v1 I0 rfl rfl rfl hS0 (by omega) (Nat.lt_succ_self _)
def wi_X8_build : List Nat := [768, 769, 778, 2303, 2367, 2431, 2495, 2559, 2623, 2687, 2751, 2815]
def wr_X8_build : List Nat := []
set_option maxHeartbeats 4000000 in
theorem k_X8_build {l : Launch} {T : Nat → Nat} {cn : Nat} {K N : Nat → Nat} {I0 : cz_I} {R0 : cz_R} {L0 : cz_L} {d : Int} (hW0 : Wf T cn K N I0 R0 d) {a0 : Nat} (ta0 : T a0 = 12) {a1 : Nat} (ta1 : T a1 = 2) {a2 : Nat} (ta2 : T a2 = 8) {x3 : Int32} : ConE l mX8_build [.ref a0, .ref a1, .ref a2, .int x3] cn K N I0 R0 L0 (ca_v (fun cn' K' N' I' R' L' => cn = cn' ∧ K = K' ∧ N = N' ∧ R0 = R' ∧ L0 = L' ∧ St T cn K N d wi_X8_build wr_X8_build I0 R0 I' R0 ∧ True)) := by
  refine ConE.of (by decide +kernel) rfl (Nat.le_of_ble_eq_true rfl) rfl (fun X hX hZ hE => ?_)
  subst hX
  have hS0 : St T cn K N d wi_X8_build wr_X8_build I0 R0 I0 R0 := St.rf0 hW0
  refine tr_aload_n dX8_build_0 rfl ?_
  refine tr_aload_n dX8_build_1 rfl ?_
  obtain ⟨v1, c2⟩ : ∃ v, I0 a1 0 = v := ⟨_, rfl⟩
  have b3 := iv2_0 hW0 ta1 c2
  refine q_getI dX8_build_2 fl8_40 (kR2 hS0.1 ta1) c2 ?_
  refine q_putI dX8_build_5 fl8_46 (kR12 hS0.1 ta0) (Or.inl rfl) hS0 ta0 (by show (0 : Int) ≤ v1.toInt ∧ v1.toInt ≤ (240 : Int); omega) rfl (by decide +kernel) ?_
  intro I4 hS5 e6 f7
  refine tr_aload_n dX8_build_8 rfl ?_
  refine q_iconst dX8_build_9 (by decide) ?_
  intro v8 h9
  refine tr_aload_n dX8_build_10 rfl ?_
  obtain ⟨v10, c11⟩ : ∃ v, I0 a1 1 = v := ⟨_, rfl⟩
  have b12 := iv2_1 hW0 ta1 c11
  refine q_getI dX8_build_11 fl8_47 (kR2 hS5.1 ta1) ((hS5.cell ta1 (by decide +kernel)).trans c11) ?_
  refine q_ishlE dX8_build_14 (by omega) (by omega) ?_
  intro v13 h14
  refine q_iconst dX8_build_15 (by decide) ?_
  intro v15 h16
  refine q_isubE dX8_build_16 (by intros; omega) ?_
  intro v17 h18
  refine q_putI dX8_build_17 fl8_50 (kR12 hS5.1 ta0) (Or.inl rfl) hS5 ta0 (iokF rfl) rfl (by decide +kernel) ?_
  intro I19 hS20 e21 f22
  have c23 : I19 a0 0 = v1 := (f22 _ _ (fun q => absurd q.2 (by decide))).trans e6
  refine tr_aload_n dX8_build_20 rfl ?_
  refine q_callVv hE (M' := mX8_wipe) (as := []) dX8_build_21 lk8_53 inX8_wipe seX8_wipe myX8_wipe (by decide) ⟨by decide, by decide⟩ rfl (kR12 hS20.1 ta0) (Nat.le_of_ble_eq_true rfl) rfl rfl (by decide) (by decide) (k_X8_wipe hS20.1 ta0) ?_
  rintro cn' K' N' I24 R25 L26 ⟨rfl, rfl, rfl, rfl, rfl, g27, -⟩
  have hS29 := hS20.tr g27 (by decide +kernel) (by decide +kernel)
  have c30 : I24 a0 0 = v1 := (g27.cell ta0 (by decide +kernel)).trans c23
  have c31 : I24 a0 1 = v17 := (g27.cell ta0 (by decide +kernel)).trans e21
  refine q_iconst dX8_build_24 (by decide) ?_
  intro v32 h33
  refine tr_istore dX8_build_25 (by decide) (by decide) ?_
  have lp43 : ∀ (fu : Nat) (ls : Nat → Option Value) (v34 : Int32) (I40 : cz_I), ls 0 = some (.ref a0) → ls 1 = some (.ref a1) → ls 2 = some (.ref a2) → ls 3 = some (.int x3) → ls 4 = some (.int v34) → St T cn K N d wi_X8_build wr_X8_build I0 R0 I40 R0 → 0 ≤ v34.toInt → (-v34.toInt + 2147483647).toNat < fu → Tr X mX8_build 27 ls [] cn K N I40 R0 L0 0 0 := by
    intro fu
    induction fu with
    | zero => intros; rename_i hz; exact absurd hz (Nat.not_lt_zero _)
    | succ fu ih43 =>
      intro ls v34 I40 hl35 hl36 hl37 hl38 hl39 hS41 g42 hm43
      refine tr_iload dX8_build_27 hl39 ?_
      refine tr_aload_n dX8_build_29 hl36 ?_
      obtain ⟨v45, c46⟩ : ∃ v, I0 a1 3 = v := ⟨_, rfl⟩
      have b47 := iv2_3 hW0 ta1 c46
      refine q_getI dX8_build_30 fl8_56 (kR2 hS41.1 ta1) ((hS41.cell ta1 (by decide +kernel)).trans c46) ?_
      refine q_icmp_ge 59 dX8_build_33 (by decide) (fun h48 => ?_) (fun h48 => ?_)
      · skip
        refine q_iconst dX8_build_59 (by decide) ?_
        intro v49 h50
        refine tr_istore dX8_build_60 (by decide) (by decide) ?_
        have lp60 : ∀ (fu : Nat) (ls : Nat → Option Value) (v51 : Int32) (I57 : cz_I), ls 0 = some (.ref a0) → ls 1 = some (.ref a1) → ls 2 = some (.ref a2) → ls 3 = some (.int x3) → ls 4 = some (.int v51) → St T cn K N d wi_X8_build wr_X8_build I0 R0 I57 R0 → 0 ≤ v51.toInt → (-v51.toInt + 2147483647).toNat < fu → Tr X mX8_build 62 ls [] cn K N I57 R0 L0 0 0 := by
          intro fu
          induction fu with
          | zero => intros; rename_i hz; exact absurd hz (Nat.not_lt_zero _)
          | succ fu ih60 =>
            intro ls v51 I57 hl52 hl53 hl54 hl55 hl56 hS58 g59 hm60
            refine tr_iload dX8_build_62 hl56 ?_
            refine tr_aload_n dX8_build_64 hl54 ?_
            obtain ⟨v62, c63⟩ : ∃ v, I0 a2 2 = v := ⟨_, rfl⟩
            have b64 := iv8_2 hW0 ta2 c63
            refine q_getI dX8_build_65 fl8_67 (kR8 hS58.1 ta2) ((hS58.cell ta2 (by decide +kernel)).trans c63) ?_
            refine q_icmp_ge 106 dX8_build_68 (by decide) (fun h65 => ?_) (fun h65 => ?_)
            · skip
              refine tr_aload_n dX8_build_106 hl52 ?_
              refine q_callVv hE (M' := mX8_findLight) (as := []) dX8_build_107 lk8_82 inX8_findLight seX8_findLight myX8_findLight (by decide) ⟨by decide, by decide⟩ rfl (kR12 hS58.1 ta0) (Nat.le_of_ble_eq_true rfl) rfl rfl (by decide) (by decide) (k_X8_findLight hS58.1 ta0) ?_
              rintro cn' K' N' I66 R67 L68 ⟨rfl, rfl, rfl, rfl, rfl, g69, -⟩
              have hS71 := hS58.tr g69 (by decide +kernel) (by decide +kernel)
              refine tr_aload_n dX8_build_110 hl52 ?_
              refine tr_aload_n dX8_build_111 hl53 ?_
              obtain ⟨a72, d73, ta72⟩ := rf2_8 hW0 ta1
              refine tr_getR dX8_build_112 fl8_85 (kR2 hS71.1 ta1) d73 ?_
              refine q_callVv hE (M' := mX8_findStirs) (as := [_]) dX8_build_115 lk8_89 inX8_findStirs seX8_findStirs myX8_findStirs (by decide) ⟨by decide, by decide⟩ rfl (kR12 hS71.1 ta0) (Nat.le_of_ble_eq_true rfl) rfl rfl (by decide) (by decide) (k_X8_findStirs hS71.1 ta0 ta72) ?_
              rintro cn' K' N' I74 R75 L76 ⟨rfl, rfl, rfl, rfl, rfl, g77, -⟩
              have hS79 := hS71.tr g77 (by decide +kernel) (by decide +kernel)
              exact tr_vret hZ dX8_build_118 rfl (by decide) (by decide) ⟨rfl, rfl, rfl, rfl, rfl, rfl, hS79, trivial⟩
            · skip
              refine tr_aload_n dX8_build_71 hl53 ?_
              refine q_getI dX8_build_72 fl8_56 (kR2 hS58.1 ta1) ((hS58.cell ta1 (by decide +kernel)).trans c46) ?_
              refine tr_iload dX8_build_75 hl56 ?_
              refine q_iaddE dX8_build_77 (by intros; omega) ?_
              intro v80 h81
              refine tr_iload_n dX8_build_78 hl55 ?_
              refine q_icmp_eq 100 dX8_build_79 (by decide) (fun h82 => ?_) (fun h82 => ?_)
              · skip
                refine q_iincE dX8_build_100 hl56 (by decide) (by decide) (by intros; omega) ?_
                intro v83 h84
                refine tr_goto 62 dX8_build_103 (by decide) ?_
                exact ih60 _ v83 I57 hl52 hl53 hl54 hl55 rfl hS58 (by omega) (by omega)
              · skip
                refine tr_aload_n dX8_build_82 hl52 ?_
                refine tr_aload_n dX8_build_83 hl54 ?_
                obtain ⟨a85, d86, ta85⟩ := rf8_3 hW0 ta2
                refine tr_getR dX8_build_84 fl8_72 (kR8 hS58.1 ta2) d86 ?_
                refine tr_iload dX8_build_87 hl56 ?_
                refine q_iald dX8_build_89 (kR27 hS58.1 ta85) (ti_in (nR27 hS58.1 ta85) (by omega) (by omega)) ?_
                intro v87 c88
                have b89 := iv27 hS58.1 ta85 c88
                refine tr_aload_n dX8_build_90 hl54 ?_
                obtain ⟨a90, d91, ta90⟩ := rf8_4 hW0 ta2
                refine tr_getR dX8_build_91 fl8_75 (kR8 hS58.1 ta2) d91 ?_
                refine tr_iload dX8_build_94 hl56 ?_
                refine q_iald dX8_build_96 (kR28 hS58.1 ta90) (ti_in (nR28 hS58.1 ta90) (by omega) (by omega)) ?_
                intro v92 c93
                have b94 := iv28 hS58.1 ta90 c93
                refine q_callVv hE (M' := mX8_layCloud) (as := [_, _]) dX8_build_97 lk8_78 inX8_layCloud seX8_layCloud myX8_layCloud (by decide) ⟨by decide, by decide⟩ rfl (kR12 hS58.1 ta0) (Nat.le_of_ble_eq_true rfl) rfl rfl (by decide) (by decide) (k_X8_layCloud hS58.1 ta0 (by omega) (by omega)) ?_
                rintro cn' K' N' I95 R96 L97 ⟨rfl, rfl, rfl, rfl, rfl, g98, -⟩
                have hS100 := hS58.tr g98 (by decide +kernel) (by decide +kernel)
                refine q_iincE dX8_build_100 hl56 (by decide) (by decide) (by intros; omega) ?_
                intro v101 h102
                refine tr_goto 62 dX8_build_103 (by decide) ?_
                exact ih60 _ v101 I95 hl52 hl53 hl54 hl55 rfl hS100 (by omega) (by omega)
        exact lp60 _ _ v49 I40 hl35 hl36 hl37 hl38 rfl hS41 (by omega) (Nat.lt_succ_self _)
      · skip
        refine tr_iload dX8_build_36 hl39 ?_
        refine tr_iload_n dX8_build_38 hl38 ?_
        refine q_icmp_eq 53 dX8_build_39 (by decide) (fun h103 => ?_) (fun h103 => ?_)
        · skip
          refine q_iincE dX8_build_53 hl39 (by decide) (by decide) (by intros; omega) ?_
          intro v104 h105
          refine tr_goto 27 dX8_build_56 (by decide) ?_
          exact ih43 _ v104 I40 hl35 hl36 hl37 hl38 rfl hS41 (by omega) (by omega)
        · skip
          refine tr_aload_n dX8_build_42 hl35 ?_
          refine tr_aload_n dX8_build_43 hl36 ?_
          obtain ⟨a106, d107, ta106⟩ := rf2_4 hW0 ta1
          refine tr_getR dX8_build_44 fl8_59 (kR2 hS41.1 ta1) d107 ?_
          refine tr_iload dX8_build_47 hl39 ?_
          obtain ⟨a108, d109, ta108⟩ := rf19 hS41.1 ta106 (j := v34.toNatClampNeg) (ti_lt (by omega) (by omega))
          refine tr_aald dX8_build_49 (kR19 hS41.1 ta106) (by decide) (by decide) (ti_in (nR19 hS41.1 ta106) (by omega) (by omega)) d109 ?_
          refine q_callVv hE (M' := mX8_layEvent) (as := [_]) dX8_build_50 lk8_63 inX8_layEvent seX8_layEvent myX8_layEvent (by decide) ⟨by decide, by decide⟩ rfl (kR12 hS41.1 ta0) (Nat.le_of_ble_eq_true rfl) rfl rfl (by decide) (by decide) (k_X8_layEvent hS41.1 ta0 ta108) ?_
          rintro cn' K' N' I110 R111 L112 ⟨rfl, rfl, rfl, rfl, rfl, g113, -⟩
          have hS115 := hS41.tr g113 (by decide +kernel) (by decide +kernel)
          refine q_iincE dX8_build_53 hl39 (by decide) (by decide) (by have z0 := x3.toInt_lt; have y0 := x3.le_toInt; intros; omega) ?_
          intro v116 h117
          refine tr_goto 27 dX8_build_56 (by decide) ?_
          exact ih43 _ v116 I110 hl35 hl36 hl37 hl38 rfl hS115 (by omega) (by omega)
  exact lp43 _ _ v32 I24 rfl rfl rfl rfl rfl hS29 (by omega) (Nat.lt_succ_self _)
def wi_X10_presentSky : List Nat := [73, 768, 769, 778, 2303, 2367, 2431, 2495, 2559, 2623, 2687, 2751, 2815]
def wr_X10_presentSky : List Nat := []
set_option maxHeartbeats 4000000 in
theorem k_X10_presentSky {l : Launch} {T : Nat → Nat} {cn : Nat} {K N : Nat → Nat} {I0 : cz_I} {R0 : cz_R} {L0 : cz_L} {d : Int} (hW0 : Wf T cn K N I0 R0 d) {a0 : Nat} (ta0 : T a0 = 1) : ConE l mX10_presentSky [.ref a0] cn K N I0 R0 L0 (ca_r (fun v cn' K' N' I' R' L' => cn = cn' ∧ K = K' ∧ N = N' ∧ R0 = R' ∧ L0 = L' ∧ St T cn K N d wi_X10_presentSky wr_X10_presentSky I0 R0 I' R0 ∧ T v = 12 ∧ True)) := by
  refine ConE.of (by decide +kernel) rfl (Nat.le_of_ble_eq_true rfl) rfl (fun X hX hZ hE => ?_)
  subst hX
  have hS0 : St T cn K N d wi_X10_presentSky wr_X10_presentSky I0 R0 I0 R0 := St.rf0 hW0
  refine tr_aload_n dX10_presentSky_0 rfl ?_
  obtain ⟨v1, c2⟩ : ∃ v, I0 a0 9 = v := ⟨_, rfl⟩
  have b3 := iv1_9 hS0.1 ta0 c2
  refine q_getZ dX10_presentSky_1 fl10_358 (kR1 hS0.1 ta0) c2 ?_
  refine q_if_ne 28 dX10_presentSky_4 (by decide) (fun h4 => ?_) (fun h4 => ?_)
  · skip
    refine tr_aload_n dX10_presentSky_28 rfl ?_
    obtain ⟨a5, d6, ta5⟩ := rf1_8 hW0 ta0
    refine tr_getR dX10_presentSky_29 fl10_49 (kR1 hS0.1 ta0) d6 ?_
    exact tr_aret hZ dX10_presentSky_32 rfl (by decide) (by decide) ⟨a5, rfl, rfl, rfl, rfl, rfl, rfl, hS0, ta5, trivial⟩
  · skip
    refine tr_aload_n dX10_presentSky_7 rfl ?_
    obtain ⟨a7, d8, ta7⟩ := rf1_8 hW0 ta0
    refine tr_getR dX10_presentSky_8 fl10_49 (kR1 hS0.1 ta0) d8 ?_
    refine tr_aload_n dX10_presentSky_11 rfl ?_
    obtain ⟨a9, d10, ta9⟩ := rf1_2 hW0 ta0
    refine tr_getR dX10_presentSky_12 fl10_16 (kR1 hS0.1 ta0) d10 ?_
    refine tr_aload_n dX10_presentSky_15 rfl ?_
    obtain ⟨a11, d12, ta11⟩ := rf1_6 hW0 ta0
    refine tr_getR dX10_presentSky_16 fl10_35 (kR1 hS0.1 ta0) d12 ?_
    refine q_iconst dX10_presentSky_19 (by decide) ?_
    intro v13 h14
    refine q_callVv hE (M' := mX8_build) (as := [_, _, _]) dX10_presentSky_20 lk10_237 inX8_build seX8_build myX8_build (by decide) ⟨by decide, by decide⟩ rfl (kR12 hS0.1 ta7) (Nat.le_of_ble_eq_true rfl) rfl rfl (by decide) (by decide) (k_X8_build hS0.1 ta7 ta9 ta11) ?_
    rintro cn' K' N' I15 R16 L17 ⟨rfl, rfl, rfl, rfl, rfl, g18, -⟩
    have hS20 := hS0.tr g18 (by decide +kernel) (by decide +kernel)
    have c21 : I15 a0 9 = v1 := (g18.cell ta0 (by decide +kernel)).trans c2
    refine tr_aload_n dX10_presentSky_23 rfl ?_
    refine q_iconst dX10_presentSky_24 (by decide) ?_
    intro v22 h23
    refine q_putZ dX10_presentSky_25 fl10_358 (kR1 hS20.1 ta0) (Or.inl rfl) hS20 ta0 (by omega) (by show (0 : Int) ≤ v22.toInt ∧ v22.toInt ≤ (1 : Int); omega) rfl (by decide +kernel) ?_
    intro I24 hS25 e26 f27
    refine tr_aload_n dX10_presentSky_28 rfl ?_
    refine tr_getR dX10_presentSky_29 fl10_49 (kR1 hS25.1 ta0) d8 ?_
    exact tr_aret hZ dX10_presentSky_32 rfl (by decide) (by decide) ⟨a7, rfl, rfl, rfl, rfl, rfl, rfl, hS25, ta7, trivial⟩
def wi_X10_sky : List Nat := [73, 81, 768, 769, 778, 2303, 2367, 2431, 2495, 2559, 2623, 2687, 2751, 2815]
def wr_X10_sky : List Nat := []
set_option maxHeartbeats 4000000 in
theorem k_X10_sky {l : Launch} {T : Nat → Nat} {cn : Nat} {K N : Nat → Nat} {I0 : cz_I} {R0 : cz_R} {L0 : cz_L} {d : Int} (hW0 : Wf T cn K N I0 R0 d) {a0 : Nat} (ta0 : T a0 = 1) {x1 : Int32} : ConE l mX10_sky [.ref a0, .int x1] cn K N I0 R0 L0 (ca_i (fun v cn' K' N' I' R' L' => cn = cn' ∧ K = K' ∧ N = N' ∧ R0 = R' ∧ L0 = L' ∧ St T cn K N d wi_X10_sky wr_X10_sky I0 R0 I' R0 ∧ True)) := by
  refine ConE.of (by decide +kernel) rfl (Nat.le_of_ble_eq_true rfl) rfl (fun X hX hZ hE => ?_)
  subst hX
  have hS0 : St T cn K N d wi_X10_sky wr_X10_sky I0 R0 I0 R0 := St.rf0 hW0
  refine tr_aload_n dX10_sky_0 rfl ?_
  obtain ⟨v1, c2⟩ : ∃ v, I0 a0 5 = v := ⟨_, rfl⟩
  have b3 := iv1_5 hW0 ta0 c2
  refine q_getZ dX10_sky_1 fl10_95 (kR1 hS0.1 ta0) c2 ?_
  refine q_if_ne 13 dX10_sky_4 (by decide) (fun h4 => ?_) (fun h4 => ?_)
  · skip
    refine tr_aload_n dX10_sky_13 rfl ?_
    refine tr_iload_n dX10_sky_14 rfl ?_
    refine q_callVi hE (M' := mX10_isMinute) (as := [_]) dX10_sky_15 lk10_115 inX10_isMinute seX10_isMinute myX10_isMinute (by decide) ⟨by decide, by decide⟩ rfl (kR1 hS0.1 ta0) (Nat.le_of_ble_eq_true rfl) rfl rfl (by decide) (by decide) (k_X10_isMinute hS0.1 ta0) ?_
    rintro v9 cn' K' N' I5 R6 L7 ⟨rfl, rfl, rfl, rfl, rfl, rfl, h10, p11, -⟩
    refine q_if_ne 27 dX10_sky_18 (by decide) (fun h12 => ?_) (fun h12 => ?_)
    · skip
      refine tr_aload_n dX10_sky_27 rfl ?_
      refine tr_aload_n dX10_sky_28 rfl ?_
      refine q_callVr hE (M' := mX10_presentSky) (as := []) dX10_sky_29 lk10_119 inX10_presentSky seX10_presentSky myX10_presentSky (by decide) ⟨by decide, by decide⟩ rfl (kR1 hS0.1 ta0) (Nat.le_of_ble_eq_true rfl) rfl rfl (by decide) (by decide) (k_X10_presentSky hS0.1 ta0) ?_
      rintro a17 cn' K' N' I13 R14 L15 ⟨rfl, rfl, rfl, rfl, rfl, g16, ta17, -⟩
      have hS18 := hS0.tr g16 (by decide +kernel) (by decide +kernel)
      refine tr_iload_n dX10_sky_32 rfl ?_
      refine q_callVi hE (M' := mX8_isBright) (as := [_]) dX10_sky_33 lk10_123 inX8_isBright seX8_isBright myX8_isBright (by decide) ⟨by decide, by decide⟩ rfl (kR12 hS18.1 ta17) (Nat.le_of_ble_eq_true rfl) rfl rfl (by decide) (by decide) (k_X8_isBright hS18.1 ta17 (by omega)) ?_
      rintro v23 cn' K' N' I19 R20 L21 ⟨rfl, rfl, rfl, rfl, rfl, rfl, h24, -⟩
      refine q_if_eq 43 dX10_sky_36 (by decide) (fun h25 => ?_) (fun h25 => ?_)
      · skip
        refine q_iconst dX10_sky_43 (by decide) ?_
        intro v26 h27
        refine q_callVi hE (M' := mX10_answered) (as := [_]) dX10_sky_44 lk10_109 inX10_answered seX10_answered myX10_answered (by decide) ⟨by decide, by decide⟩ rfl (kR1 hS18.1 ta0) (Nat.le_of_ble_eq_true rfl) rfl rfl (by decide) (by decide) (k_X10_answered hS18.1 ta0) ?_
        rintro v32 cn' K' N' I28 R29 L30 ⟨rfl, rfl, rfl, rfl, rfl, g31, -⟩
        have hS33 := hS18.tr g31 (by decide +kernel) (by decide +kernel)
        exact tr_iret hZ dX10_sky_47 rfl (by decide) (by decide) ⟨v32, rfl, rfl, rfl, rfl, rfl, rfl, hS33, trivial⟩
      · skip
        refine q_iconst dX10_sky_39 (by decide) ?_
        intro v34 h35
        refine tr_goto 44 dX10_sky_40 (by decide) ?_
        refine q_callVi hE (M' := mX10_answered) (as := [_]) dX10_sky_44 lk10_109 inX10_answered seX10_answered myX10_answered (by decide) ⟨by decide, by decide⟩ rfl (kR1 hS18.1 ta0) (Nat.le_of_ble_eq_true rfl) rfl rfl (by decide) (by decide) (k_X10_answered hS18.1 ta0) ?_
        rintro v40 cn' K' N' I36 R37 L38 ⟨rfl, rfl, rfl, rfl, rfl, g39, -⟩
        have hS41 := hS18.tr g39 (by decide +kernel) (by decide +kernel)
        exact tr_iret hZ dX10_sky_47 rfl (by decide) (by decide) ⟨v40, rfl, rfl, rfl, rfl, rfl, rfl, hS41, trivial⟩
    · skip
      refine tr_aload_n dX10_sky_21 rfl ?_
      refine q_iconst dX10_sky_22 (by decide) ?_
      intro v42 h43
      refine q_callVi hE (M' := mX10_refused) (as := [_]) dX10_sky_23 lk10_79 inX10_refused seX10_refused myX10_refused (by decide) ⟨by decide, by decide⟩ rfl (kR1 hS0.1 ta0) (Nat.le_of_ble_eq_true rfl) rfl rfl (by decide) (by decide) (k_X10_refused hS0.1 ta0) ?_
      rintro v48 cn' K' N' I44 R45 L46 ⟨rfl, rfl, rfl, rfl, rfl, g47, -⟩
      have hS49 := hS0.tr g47 (by decide +kernel) (by decide +kernel)
      exact tr_iret hZ dX10_sky_26 rfl (by decide) (by decide) ⟨v48, rfl, rfl, rfl, rfl, rfl, rfl, hS49, trivial⟩
  · skip
    refine tr_aload_n dX10_sky_7 rfl ?_
    refine q_iconst dX10_sky_8 (by decide) ?_
    intro v50 h51
    refine q_callVi hE (M' := mX10_refused) (as := [_]) dX10_sky_9 lk10_79 inX10_refused seX10_refused myX10_refused (by decide) ⟨by decide, by decide⟩ rfl (kR1 hS0.1 ta0) (Nat.le_of_ble_eq_true rfl) rfl rfl (by decide) (by decide) (k_X10_refused hS0.1 ta0) ?_
    rintro v56 cn' K' N' I52 R53 L54 ⟨rfl, rfl, rfl, rfl, rfl, g55, -⟩
    have hS57 := hS0.tr g55 (by decide +kernel) (by decide +kernel)
    exact tr_iret hZ dX10_sky_12 rfl (by decide) (by decide) ⟨v56, rfl, rfl, rfl, rfl, rfl, rfl, hS57, trivial⟩
set_option maxHeartbeats 4000000 in
theorem k_X10_isHut {l : Launch} {T : Nat → Nat} {cn : Nat} {K N : Nat → Nat} {I0 : cz_I} {R0 : cz_R} {L0 : cz_L} {d : Int} (hW0 : Wf T cn K N I0 R0 d) {a0 : Nat} (ta0 : T a0 = 1) {x1 : Int32} : ConE l mX10_isHut [.ref a0, .int x1] cn K N I0 R0 L0 (ca_i (fun v cn' K' N' I' R' L' => cn = cn' ∧ K = K' ∧ N = N' ∧ I0 = I' ∧ R0 = R' ∧ L0 = L' ∧ (0 ≤ v.toInt ∧ v.toInt ≤ 1) ∧ True)) := by
  refine ConE.of (by decide +kernel) rfl (Nat.le_of_ble_eq_true rfl) rfl (fun X hX hZ hE => ?_)
  subst hX
  refine tr_iload_n dX10_isHut_0 rfl ?_
  refine q_if_lt 19 dX10_isHut_1 (by decide) (fun h1 => ?_) (fun h1 => ?_)
  · skip
    refine q_iconst dX10_isHut_19 (by decide) ?_
    intro v2 h3
    exact tr_zret hZ dX10_isHut_20 rfl (ti_b01 (by omega) (by omega)) (by decide) (by decide) ⟨v2, rfl, rfl, rfl, rfl, rfl, rfl, rfl, (by omega), trivial⟩
  · skip
    refine tr_iload_n dX10_isHut_4 rfl ?_
    refine tr_aload_n dX10_isHut_5 rfl ?_
    obtain ⟨a4, d5, ta4⟩ := rf1_2 hW0 ta0
    refine tr_getR dX10_isHut_6 fl10_16 (kR1 hW0 ta0) d5 ?_
    obtain ⟨v6, c7⟩ : ∃ v, I0 a4 1 = v := ⟨_, rfl⟩
    have b8 := iv2_1 hW0 ta4 c7
    refine q_getI dX10_isHut_9 fl10_332 (kR2 hW0 ta4) c7 ?_
    refine q_icmp_ge 19 dX10_isHut_12 (by decide) (fun h9 => ?_) (fun h9 => ?_)
    · skip
      refine q_iconst dX10_isHut_19 (by decide) ?_
      intro v10 h11
      exact tr_zret hZ dX10_isHut_20 rfl (ti_b01 (by omega) (by omega)) (by decide) (by decide) ⟨v10, rfl, rfl, rfl, rfl, rfl, rfl, rfl, (by omega), trivial⟩
    · skip
      refine q_iconst dX10_isHut_15 (by decide) ?_
      intro v12 h13
      refine tr_goto 20 dX10_isHut_16 (by decide) ?_
      exact tr_zret hZ dX10_isHut_20 rfl (ti_b01 (by omega) (by omega)) (by decide) (by decide) ⟨v12, rfl, rfl, rfl, rfl, rfl, rfl, rfl, (by omega), trivial⟩
def wi_X10_light : List Nat := [73, 81, 768, 769, 778, 2303, 2367, 2431, 2495, 2559, 2623, 2687, 2751, 2815]
def wr_X10_light : List Nat := []
set_option maxHeartbeats 4000000 in
theorem k_X10_light {l : Launch} {T : Nat → Nat} {cn : Nat} {K N : Nat → Nat} {I0 : cz_I} {R0 : cz_R} {L0 : cz_L} {d : Int} (hW0 : Wf T cn K N I0 R0 d) {a0 : Nat} (ta0 : T a0 = 1) {x1 : Int32} {x2 : Int32} {x3 : Int32} : ConE l mX10_light [.ref a0, .int x1, .int x2, .int x3] cn K N I0 R0 L0 (ca_i (fun v cn' K' N' I' R' L' => cn = cn' ∧ K = K' ∧ N = N' ∧ R0 = R' ∧ L0 = L' ∧ St T cn K N d wi_X10_light wr_X10_light I0 R0 I' R0 ∧ True)) := by
  refine ConE.of (by decide +kernel) rfl (Nat.le_of_ble_eq_true rfl) rfl (fun X hX hZ hE => ?_)
  subst hX
  have hS0 : St T cn K N d wi_X10_light wr_X10_light I0 R0 I0 R0 := St.rf0 hW0
  refine tr_aload_n dX10_light_0 rfl ?_
  refine tr_iload_n dX10_light_1 rfl ?_
  refine q_callVi hE (M' := mX10_isHut) (as := [_]) dX10_light_2 lk10_126 inX10_isHut seX10_isHut myX10_isHut (by decide) ⟨by decide, by decide⟩ rfl (kR1 hS0.1 ta0) (Nat.le_of_ble_eq_true rfl) rfl rfl (by decide) (by decide) (k_X10_isHut hS0.1 ta0) ?_
  rintro v5 cn' K' N' I1 R2 L3 ⟨rfl, rfl, rfl, rfl, rfl, rfl, h6, -⟩
  refine q_if_ne 14 dX10_light_5 (by decide) (fun h7 => ?_) (fun h7 => ?_)
  · skip
    refine tr_aload_n dX10_light_14 rfl ?_
    refine tr_iload_n dX10_light_15 rfl ?_
    refine q_callVi hE (M' := mX10_isMinute) (as := [_]) dX10_light_16 lk10_115 inX10_isMinute seX10_isMinute myX10_isMinute (by decide) ⟨by decide, by decide⟩ rfl (kR1 hS0.1 ta0) (Nat.le_of_ble_eq_true rfl) rfl rfl (by decide) (by decide) (k_X10_isMinute hS0.1 ta0) ?_
    rintro v12 cn' K' N' I8 R9 L10 ⟨rfl, rfl, rfl, rfl, rfl, rfl, h13, p14, -⟩
    refine q_if_ne 28 dX10_light_19 (by decide) (fun h15 => ?_) (fun h15 => ?_)
    · skip
      refine tr_aload_n dX10_light_28 rfl ?_
      refine q_callVr hE (M' := mX10_presentSky) (as := []) dX10_light_29 lk10_119 inX10_presentSky seX10_presentSky myX10_presentSky (by decide) ⟨by decide, by decide⟩ rfl (kR1 hS0.1 ta0) (Nat.le_of_ble_eq_true rfl) rfl rfl (by decide) (by decide) (k_X10_presentSky hS0.1 ta0) ?_
      rintro a20 cn' K' N' I16 R17 L18 ⟨rfl, rfl, rfl, rfl, rfl, g19, ta20, -⟩
      have hS21 := hS0.tr g19 (by decide +kernel) (by decide +kernel)
      refine tr_astore dX10_light_32 (by decide) (by decide) ?_
      refine tr_iload_n dX10_light_34 rfl ?_
      refine q_if_eq 46 dX10_light_35 (by decide) (fun h22 => ?_) (fun h22 => ?_)
      · skip
        refine tr_aload dX10_light_46 rfl ?_
        obtain ⟨a23, d24, ta23⟩ := rf12_6 hW0 ta20
        refine tr_getR dX10_light_48 fl10_133 (kR12 hS21.1 ta20) d24 ?_
        refine tr_astore dX10_light_51 (by decide) (by decide) ?_
        refine tr_aload_n dX10_light_53 rfl ?_
        refine tr_aload dX10_light_54 rfl ?_
        refine tr_iload_n dX10_light_56 rfl ?_
        refine q_iald dX10_light_57 (kR39 hS21.1 ta23) (ti_in (nR39 hS21.1 ta23) (by omega) (by omega)) ?_
        intro v25 c26
        refine tr_iload_n dX10_light_58 rfl ?_
        refine q_callSi hE (M' := mX10_bit) (as := [_, _]) dX10_light_59 lk10_136 inX10_bit myX10_bit ⟨by decide, by decide⟩ rfl (Nat.le_of_ble_eq_true rfl) rfl rfl (by decide) (by decide) (k_X10_bit hS21.1 ) ?_
        rintro v31 cn' K' N' I27 R28 L29 ⟨rfl, rfl, rfl, rfl, rfl, rfl, -⟩
        refine q_callVi hE (M' := mX10_answered) (as := [_]) dX10_light_62 lk10_109 inX10_answered seX10_answered myX10_answered (by decide) ⟨by decide, by decide⟩ rfl (kR1 hS21.1 ta0) (Nat.le_of_ble_eq_true rfl) rfl rfl (by decide) (by decide) (k_X10_answered hS21.1 ta0) ?_
        rintro v36 cn' K' N' I32 R33 L34 ⟨rfl, rfl, rfl, rfl, rfl, g35, -⟩
        have hS37 := hS21.tr g35 (by decide +kernel) (by decide +kernel)
        exact tr_iret hZ dX10_light_65 rfl (by decide) (by decide) ⟨v36, rfl, rfl, rfl, rfl, rfl, rfl, hS37, trivial⟩
      · skip
        refine tr_aload dX10_light_38 rfl ?_
        obtain ⟨a38, d39, ta38⟩ := rf12_7 hW0 ta20
        refine tr_getR dX10_light_40 fl10_129 (kR12 hS21.1 ta20) d39 ?_
        refine tr_goto 51 dX10_light_43 (by decide) ?_
        refine tr_astore dX10_light_51 (by decide) (by decide) ?_
        refine tr_aload_n dX10_light_53 rfl ?_
        refine tr_aload dX10_light_54 rfl ?_
        refine tr_iload_n dX10_light_56 rfl ?_
        refine q_iald dX10_light_57 (kR40 hS21.1 ta38) (ti_in (nR40 hS21.1 ta38) (by omega) (by omega)) ?_
        intro v40 c41
        refine tr_iload_n dX10_light_58 rfl ?_
        refine q_callSi hE (M' := mX10_bit) (as := [_, _]) dX10_light_59 lk10_136 inX10_bit myX10_bit ⟨by decide, by decide⟩ rfl (Nat.le_of_ble_eq_true rfl) rfl rfl (by decide) (by decide) (k_X10_bit hS21.1 ) ?_
        rintro v46 cn' K' N' I42 R43 L44 ⟨rfl, rfl, rfl, rfl, rfl, rfl, -⟩
        refine q_callVi hE (M' := mX10_answered) (as := [_]) dX10_light_62 lk10_109 inX10_answered seX10_answered myX10_answered (by decide) ⟨by decide, by decide⟩ rfl (kR1 hS21.1 ta0) (Nat.le_of_ble_eq_true rfl) rfl rfl (by decide) (by decide) (k_X10_answered hS21.1 ta0) ?_
        rintro v51 cn' K' N' I47 R48 L49 ⟨rfl, rfl, rfl, rfl, rfl, g50, -⟩
        have hS52 := hS21.tr g50 (by decide +kernel) (by decide +kernel)
        exact tr_iret hZ dX10_light_65 rfl (by decide) (by decide) ⟨v51, rfl, rfl, rfl, rfl, rfl, rfl, hS52, trivial⟩
    · skip
      refine tr_aload_n dX10_light_22 rfl ?_
      refine q_iconst dX10_light_23 (by decide) ?_
      intro v53 h54
      refine q_callVi hE (M' := mX10_refused) (as := [_]) dX10_light_24 lk10_79 inX10_refused seX10_refused myX10_refused (by decide) ⟨by decide, by decide⟩ rfl (kR1 hS0.1 ta0) (Nat.le_of_ble_eq_true rfl) rfl rfl (by decide) (by decide) (k_X10_refused hS0.1 ta0) ?_
      rintro v59 cn' K' N' I55 R56 L57 ⟨rfl, rfl, rfl, rfl, rfl, g58, -⟩
      have hS60 := hS0.tr g58 (by decide +kernel) (by decide +kernel)
      exact tr_iret hZ dX10_light_27 rfl (by decide) (by decide) ⟨v59, rfl, rfl, rfl, rfl, rfl, rfl, hS60, trivial⟩
  · skip
    refine tr_aload_n dX10_light_8 rfl ?_
    refine q_iconst dX10_light_9 (by decide) ?_
    intro v61 h62
    refine q_callVi hE (M' := mX10_refused) (as := [_]) dX10_light_10 lk10_79 inX10_refused seX10_refused myX10_refused (by decide) ⟨by decide, by decide⟩ rfl (kR1 hS0.1 ta0) (Nat.le_of_ble_eq_true rfl) rfl rfl (by decide) (by decide) (k_X10_refused hS0.1 ta0) ?_
    rintro v67 cn' K' N' I63 R64 L65 ⟨rfl, rfl, rfl, rfl, rfl, g66, -⟩
    have hS68 := hS0.tr g66 (by decide +kernel) (by decide +kernel)
    exact tr_iret hZ dX10_light_13 rfl (by decide) (by decide) ⟨v67, rfl, rfl, rfl, rfl, rfl, rfl, hS68, trivial⟩
def wi_X10_changes : List Nat := [73, 81, 768, 769, 778, 2303, 2367, 2431, 2495, 2559, 2623, 2687, 2751, 2815]
def wr_X10_changes : List Nat := []
set_option maxHeartbeats 4000000 in
theorem k_X10_changes {l : Launch} {T : Nat → Nat} {cn : Nat} {K N : Nat → Nat} {I0 : cz_I} {R0 : cz_R} {L0 : cz_L} {d : Int} (hW0 : Wf T cn K N I0 R0 d) {a0 : Nat} (ta0 : T a0 = 1) {x1 : Int32} {x2 : Int32} : ConE l mX10_changes [.ref a0, .int x1, .int x2] cn K N I0 R0 L0 (ca_i (fun v cn' K' N' I' R' L' => cn = cn' ∧ K = K' ∧ N = N' ∧ R0 = R' ∧ L0 = L' ∧ St T cn K N d wi_X10_changes wr_X10_changes I0 R0 I' R0 ∧ True)) := by
  refine ConE.of (by decide +kernel) rfl (Nat.le_of_ble_eq_true rfl) rfl (fun X hX hZ hE => ?_)
  subst hX
  have hS0 : St T cn K N d wi_X10_changes wr_X10_changes I0 R0 I0 R0 := St.rf0 hW0
  refine tr_aload_n dX10_changes_0 rfl ?_
  refine tr_iload_n dX10_changes_1 rfl ?_
  refine q_callVi hE (M' := mX10_isHut) (as := [_]) dX10_changes_2 lk10_126 inX10_isHut seX10_isHut myX10_isHut (by decide) ⟨by decide, by decide⟩ rfl (kR1 hS0.1 ta0) (Nat.le_of_ble_eq_true rfl) rfl rfl (by decide) (by decide) (k_X10_isHut hS0.1 ta0) ?_
  rintro v5 cn' K' N' I1 R2 L3 ⟨rfl, rfl, rfl, rfl, rfl, rfl, h6, -⟩
  refine q_if_ne 14 dX10_changes_5 (by decide) (fun h7 => ?_) (fun h7 => ?_)
  · skip
    refine tr_aload_n dX10_changes_14 rfl ?_
    refine q_callVr hE (M' := mX10_presentSky) (as := []) dX10_changes_15 lk10_119 inX10_presentSky seX10_presentSky myX10_presentSky (by decide) ⟨by decide, by decide⟩ rfl (kR1 hS0.1 ta0) (Nat.le_of_ble_eq_true rfl) rfl rfl (by decide) (by decide) (k_X10_presentSky hS0.1 ta0) ?_
    rintro a12 cn' K' N' I8 R9 L10 ⟨rfl, rfl, rfl, rfl, rfl, g11, ta12, -⟩
    have hS13 := hS0.tr g11 (by decide +kernel) (by decide +kernel)
    refine tr_astore_n dX10_changes_18 (by decide) (by decide) ?_
    refine tr_iload_n dX10_changes_19 rfl ?_
    refine q_if_eq 30 dX10_changes_20 (by decide) (fun h14 => ?_) (fun h14 => ?_)
    · skip
      refine tr_aload_n dX10_changes_30 rfl ?_
      obtain ⟨a15, d16, ta15⟩ := rf12_8 hW0 ta12
      refine tr_getR dX10_changes_31 fl10_143 (kR12 hS13.1 ta12) d16 ?_
      refine tr_astore dX10_changes_34 (by decide) (by decide) ?_
      refine q_iconst dX10_changes_36 (by decide) ?_
      intro v17 h18
      refine tr_istore dX10_changes_37 (by decide) (by decide) ?_
      refine q_iconst dX10_changes_39 (by decide) ?_
      intro v19 h20
      refine tr_istore dX10_changes_40 (by decide) (by decide) ?_
      have lp33 : ∀ (fu : Nat) (ls : Nat → Option Value) (v21 : Int32) (v22 : Int32) (I30 : cz_I), ls 0 = some (.ref a0) → ls 1 = some (.int x1) → ls 2 = some (.int x2) → ls 3 = some (.ref a12) → ls 4 = some (.ref a15) → ls 5 = some (.int v21) → ls 6 = some (.int v22) → St T cn K N d wi_X10_changes wr_X10_changes I0 R0 I30 R0 → 0 ≤ v22.toInt → (-v22.toInt + 2147483647).toNat < fu → Tr X mX10_changes 42 ls [] cn K N I30 R0 L0 0 0 := by
        intro fu
        induction fu with
        | zero => intros; rename_i hz; exact absurd hz (Nat.not_lt_zero _)
        | succ fu ih33 =>
          intro ls v21 v22 I30 hl23 hl24 hl25 hl26 hl27 hl28 hl29 hS31 g32 hm33
          refine tr_iload dX10_changes_42 hl29 ?_
          refine tr_aload_n dX10_changes_44 hl23 ?_
          obtain ⟨a35, d36, ta35⟩ := rf1_2 hW0 ta0
          refine tr_getR dX10_changes_45 fl10_16 (kR1 hS31.1 ta0) d36 ?_
          obtain ⟨v37, c38⟩ : ∃ v, I0 a35 0 = v := ⟨_, rfl⟩
          have b39 := iv2_0 hW0 ta35 c38
          refine q_getI dX10_changes_48 fl10_146 (kR2 hS31.1 ta35) ((hS31.cell ta35 (by decide +kernel)).trans c38) ?_
          refine q_icmp_ge 74 dX10_changes_51 (by decide) (fun h40 => ?_) (fun h40 => ?_)
          · skip
            refine tr_aload_n dX10_changes_74 hl23 ?_
            refine tr_iload dX10_changes_75 hl28 ?_
            refine q_callVi hE (M' := mX10_answered) (as := [_]) dX10_changes_77 lk10_109 inX10_answered seX10_answered myX10_answered (by decide) ⟨by decide, by decide⟩ rfl (kR1 hS31.1 ta0) (Nat.le_of_ble_eq_true rfl) rfl rfl (by decide) (by decide) (k_X10_answered hS31.1 ta0) ?_
            rintro v45 cn' K' N' I41 R42 L43 ⟨rfl, rfl, rfl, rfl, rfl, g44, -⟩
            have hS46 := hS31.tr g44 (by decide +kernel) (by decide +kernel)
            exact tr_iret hZ dX10_changes_80 rfl (by decide) (by decide) ⟨v45, rfl, rfl, rfl, rfl, rfl, rfl, hS46, trivial⟩
          · skip
            refine tr_iload dX10_changes_54 hl28 ?_
            refine tr_aload dX10_changes_56 hl27 ?_
            refine tr_iload dX10_changes_58 hl29 ?_
            refine q_iald dX10_changes_60 (kR41 hS31.1 ta15) (ti_in (nR41 hS31.1 ta15) (by omega) (by omega)) ?_
            intro v47 c48
            refine tr_iload_n dX10_changes_61 hl24 ?_
            refine q_callSi hE (M' := mX10_bit) (as := [_, _]) dX10_changes_62 lk10_136 inX10_bit myX10_bit ⟨by decide, by decide⟩ rfl (Nat.le_of_ble_eq_true rfl) rfl rfl (by decide) (by decide) (k_X10_bit hS31.1 ) ?_
            rintro v53 cn' K' N' I49 R50 L51 ⟨rfl, rfl, rfl, rfl, rfl, rfl, -⟩
            refine q_iadd dX10_changes_65 ?_
            intro v54
            refine tr_istore dX10_changes_66 (by decide) (by decide) ?_
            refine q_iincE dX10_changes_68 hl29 (by decide) (by decide) (by intros; omega) ?_
            intro v55 h56
            refine tr_goto 42 dX10_changes_71 (by decide) ?_
            exact ih33 _ v54 v55 I30 hl23 hl24 hl25 hl26 hl27 rfl rfl hS31 (by omega) (by omega)
      exact lp33 _ _ v17 v19 I8 rfl rfl rfl rfl rfl rfl rfl hS13 (by omega) (Nat.lt_succ_self _)
    · skip
      refine tr_aload_n dX10_changes_23 rfl ?_
      obtain ⟨a57, d58, ta57⟩ := rf12_9 hW0 ta12
      refine tr_getR dX10_changes_24 fl10_140 (kR12 hS13.1 ta12) d58 ?_
      refine tr_goto 34 dX10_changes_27 (by decide) ?_
      refine tr_astore dX10_changes_34 (by decide) (by decide) ?_
      refine q_iconst dX10_changes_36 (by decide) ?_
      intro v59 h60
      refine tr_istore dX10_changes_37 (by decide) (by decide) ?_
      refine q_iconst dX10_changes_39 (by decide) ?_
      intro v61 h62
      refine tr_istore dX10_changes_40 (by decide) (by decide) ?_
      have lp75 : ∀ (fu : Nat) (ls : Nat → Option Value) (v63 : Int32) (v64 : Int32) (I72 : cz_I), ls 0 = some (.ref a0) → ls 1 = some (.int x1) → ls 2 = some (.int x2) → ls 3 = some (.ref a12) → ls 4 = some (.ref a57) → ls 5 = some (.int v63) → ls 6 = some (.int v64) → St T cn K N d wi_X10_changes wr_X10_changes I0 R0 I72 R0 → 0 ≤ v64.toInt → (-v64.toInt + 2147483647).toNat < fu → Tr X mX10_changes 42 ls [] cn K N I72 R0 L0 0 0 := by
        intro fu
        induction fu with
        | zero => intros; rename_i hz; exact absurd hz (Nat.not_lt_zero _)
        | succ fu ih75 =>
          intro ls v63 v64 I72 hl65 hl66 hl67 hl68 hl69 hl70 hl71 hS73 g74 hm75
          refine tr_iload dX10_changes_42 hl71 ?_
          refine tr_aload_n dX10_changes_44 hl65 ?_
          obtain ⟨a77, d78, ta77⟩ := rf1_2 hW0 ta0
          refine tr_getR dX10_changes_45 fl10_16 (kR1 hS73.1 ta0) d78 ?_
          obtain ⟨v79, c80⟩ : ∃ v, I0 a77 0 = v := ⟨_, rfl⟩
          have b81 := iv2_0 hW0 ta77 c80
          refine q_getI dX10_changes_48 fl10_146 (kR2 hS73.1 ta77) ((hS73.cell ta77 (by decide +kernel)).trans c80) ?_
          refine q_icmp_ge 74 dX10_changes_51 (by decide) (fun h82 => ?_) (fun h82 => ?_)
          · skip
            refine tr_aload_n dX10_changes_74 hl65 ?_
            refine tr_iload dX10_changes_75 hl70 ?_
            refine q_callVi hE (M' := mX10_answered) (as := [_]) dX10_changes_77 lk10_109 inX10_answered seX10_answered myX10_answered (by decide) ⟨by decide, by decide⟩ rfl (kR1 hS73.1 ta0) (Nat.le_of_ble_eq_true rfl) rfl rfl (by decide) (by decide) (k_X10_answered hS73.1 ta0) ?_
            rintro v87 cn' K' N' I83 R84 L85 ⟨rfl, rfl, rfl, rfl, rfl, g86, -⟩
            have hS88 := hS73.tr g86 (by decide +kernel) (by decide +kernel)
            exact tr_iret hZ dX10_changes_80 rfl (by decide) (by decide) ⟨v87, rfl, rfl, rfl, rfl, rfl, rfl, hS88, trivial⟩
          · skip
            refine tr_iload dX10_changes_54 hl70 ?_
            refine tr_aload dX10_changes_56 hl69 ?_
            refine tr_iload dX10_changes_58 hl71 ?_
            refine q_iald dX10_changes_60 (kR42 hS73.1 ta57) (ti_in (nR42 hS73.1 ta57) (by omega) (by omega)) ?_
            intro v89 c90
            refine tr_iload_n dX10_changes_61 hl66 ?_
            refine q_callSi hE (M' := mX10_bit) (as := [_, _]) dX10_changes_62 lk10_136 inX10_bit myX10_bit ⟨by decide, by decide⟩ rfl (Nat.le_of_ble_eq_true rfl) rfl rfl (by decide) (by decide) (k_X10_bit hS73.1 ) ?_
            rintro v95 cn' K' N' I91 R92 L93 ⟨rfl, rfl, rfl, rfl, rfl, rfl, -⟩
            refine q_iadd dX10_changes_65 ?_
            intro v96
            refine tr_istore dX10_changes_66 (by decide) (by decide) ?_
            refine q_iincE dX10_changes_68 hl71 (by decide) (by decide) (by intros; omega) ?_
            intro v97 h98
            refine tr_goto 42 dX10_changes_71 (by decide) ?_
            exact ih75 _ v96 v97 I72 hl65 hl66 hl67 hl68 hl69 rfl rfl hS73 (by omega) (by omega)
      exact lp75 _ _ v59 v61 I8 rfl rfl rfl rfl rfl rfl rfl hS13 (by omega) (Nat.lt_succ_self _)
  · skip
    refine tr_aload_n dX10_changes_8 rfl ?_
    refine q_iconst dX10_changes_9 (by decide) ?_
    intro v99 h100
    refine q_callVi hE (M' := mX10_refused) (as := [_]) dX10_changes_10 lk10_79 inX10_refused seX10_refused myX10_refused (by decide) ⟨by decide, by decide⟩ rfl (kR1 hS0.1 ta0) (Nat.le_of_ble_eq_true rfl) rfl rfl (by decide) (by decide) (k_X10_refused hS0.1 ta0) ?_
    rintro v105 cn' K' N' I101 R102 L103 ⟨rfl, rfl, rfl, rfl, rfl, g104, -⟩
    have hS106 := hS0.tr g104 (by decide +kernel) (by decide +kernel)
    exact tr_iret hZ dX10_changes_13 rfl (by decide) (by decide) ⟨v105, rfl, rfl, rfl, rfl, rfl, rfl, hS106, trivial⟩
def wi_X10_change : List Nat := [73, 81, 768, 769, 778, 2303, 2367, 2431, 2495, 2559, 2623, 2687, 2751, 2815]
def wr_X10_change : List Nat := []
set_option maxHeartbeats 4000000 in
theorem k_X10_change {l : Launch} {T : Nat → Nat} {cn : Nat} {K N : Nat → Nat} {I0 : cz_I} {R0 : cz_R} {L0 : cz_L} {d : Int} (hW0 : Wf T cn K N I0 R0 d) {a0 : Nat} (ta0 : T a0 = 1) {x1 : Int32} {x2 : Int32} : ConE l mX10_change [.ref a0, .int x1, .int x2] cn K N I0 R0 L0 (ca_i (fun v cn' K' N' I' R' L' => cn = cn' ∧ K = K' ∧ N = N' ∧ R0 = R' ∧ L0 = L' ∧ St T cn K N d wi_X10_change wr_X10_change I0 R0 I' R0 ∧ True)) := by
  refine ConE.of (by decide +kernel) rfl (Nat.le_of_ble_eq_true rfl) rfl (fun X hX hZ hE => ?_)
  subst hX
  have hS0 : St T cn K N d wi_X10_change wr_X10_change I0 R0 I0 R0 := St.rf0 hW0
  refine tr_aload_n dX10_change_0 rfl ?_
  refine tr_iload_n dX10_change_1 rfl ?_
  refine q_callVi hE (M' := mX10_isHut) (as := [_]) dX10_change_2 lk10_126 inX10_isHut seX10_isHut myX10_isHut (by decide) ⟨by decide, by decide⟩ rfl (kR1 hS0.1 ta0) (Nat.le_of_ble_eq_true rfl) rfl rfl (by decide) (by decide) (k_X10_isHut hS0.1 ta0) ?_
  rintro v5 cn' K' N' I1 R2 L3 ⟨rfl, rfl, rfl, rfl, rfl, rfl, h6, -⟩
  refine q_if_ne 14 dX10_change_5 (by decide) (fun h7 => ?_) (fun h7 => ?_)
  · skip
    refine tr_aload_n dX10_change_14 rfl ?_
    refine q_callVr hE (M' := mX10_presentSky) (as := []) dX10_change_15 lk10_119 inX10_presentSky seX10_presentSky myX10_presentSky (by decide) ⟨by decide, by decide⟩ rfl (kR1 hS0.1 ta0) (Nat.le_of_ble_eq_true rfl) rfl rfl (by decide) (by decide) (k_X10_presentSky hS0.1 ta0) ?_
    rintro a12 cn' K' N' I8 R9 L10 ⟨rfl, rfl, rfl, rfl, rfl, g11, ta12, -⟩
    have hS13 := hS0.tr g11 (by decide +kernel) (by decide +kernel)
    refine tr_astore_n dX10_change_18 (by decide) (by decide) ?_
    refine q_iconst dX10_change_19 (by decide) ?_
    intro v14 h15
    refine tr_istore dX10_change_20 (by decide) (by decide) ?_
    refine q_iconst dX10_change_22 (by decide) ?_
    intro v16 h17
    refine tr_istore dX10_change_23 (by decide) (by decide) ?_
    have lp29 : ∀ (fu : Nat) (ls : Nat → Option Value) (v18 : Int32) (v19 : Int32) (I26 : cz_I), ls 0 = some (.ref a0) → ls 1 = some (.int x1) → ls 2 = some (.int x2) → ls 3 = some (.ref a12) → ls 4 = some (.int v18) → ls 5 = some (.int v19) → St T cn K N d wi_X10_change wr_X10_change I0 R0 I26 R0 → 0 ≤ v19.toInt → (-v19.toInt + 2147483647).toNat < fu → Tr X mX10_change 25 ls [] cn K N I26 R0 L0 0 0 := by
      intro fu
      induction fu with
      | zero => intros; rename_i hz; exact absurd hz (Nat.not_lt_zero _)
      | succ fu ih29 =>
        intro ls v18 v19 I26 hl20 hl21 hl22 hl23 hl24 hl25 hS27 g28 hm29
        refine tr_iload dX10_change_25 hl25 ?_
        refine tr_aload_n dX10_change_27 hl20 ?_
        obtain ⟨a31, d32, ta31⟩ := rf1_2 hW0 ta0
        refine tr_getR dX10_change_28 fl10_16 (kR1 hS27.1 ta0) d32 ?_
        obtain ⟨v33, c34⟩ : ∃ v, I0 a31 0 = v := ⟨_, rfl⟩
        have b35 := iv2_0 hW0 ta31 c34
        refine q_getI dX10_change_31 fl10_146 (kR2 hS27.1 ta31) ((hS27.cell ta31 (by decide +kernel)).trans c34) ?_
        refine q_icmp_ge 74 dX10_change_34 (by decide) (fun h36 => ?_) (fun h36 => ?_)
        · skip
          refine tr_aload_n dX10_change_74 hl20 ?_
          refine q_iconst dX10_change_75 (by decide) ?_
          intro v37 h38
          refine q_callVi hE (M' := mX10_refused) (as := [_]) dX10_change_76 lk10_79 inX10_refused seX10_refused myX10_refused (by decide) ⟨by decide, by decide⟩ rfl (kR1 hS27.1 ta0) (Nat.le_of_ble_eq_true rfl) rfl rfl (by decide) (by decide) (k_X10_refused hS27.1 ta0) ?_
          rintro v43 cn' K' N' I39 R40 L41 ⟨rfl, rfl, rfl, rfl, rfl, g42, -⟩
          have hS44 := hS27.tr g42 (by decide +kernel) (by decide +kernel)
          exact tr_iret hZ dX10_change_79 rfl (by decide) (by decide) ⟨v43, rfl, rfl, rfl, rfl, rfl, rfl, hS44, trivial⟩
        · skip
          refine tr_aload_n dX10_change_37 hl23 ?_
          obtain ⟨a45, d46, ta45⟩ := rf12_8 hW0 ta12
          refine tr_getR dX10_change_38 fl10_143 (kR12 hS27.1 ta12) d46 ?_
          refine tr_iload dX10_change_41 hl25 ?_
          refine q_iald dX10_change_43 (kR41 hS27.1 ta45) (ti_in (nR41 hS27.1 ta45) (by omega) (by omega)) ?_
          intro v47 c48
          refine tr_iload_n dX10_change_44 hl21 ?_
          refine q_callSi hE (M' := mX10_bit) (as := [_, _]) dX10_change_45 lk10_136 inX10_bit myX10_bit ⟨by decide, by decide⟩ rfl (Nat.le_of_ble_eq_true rfl) rfl rfl (by decide) (by decide) (k_X10_bit hS27.1 ) ?_
          rintro v53 cn' K' N' I49 R50 L51 ⟨rfl, rfl, rfl, rfl, rfl, rfl, -⟩
          refine q_iconst dX10_change_48 (by decide) ?_
          intro v54 h55
          refine q_icmp_ne 68 dX10_change_49 (by decide) (fun h56 => ?_) (fun h56 => ?_)
          · skip
            refine q_iincE dX10_change_68 hl25 (by decide) (by decide) (by intros; omega) ?_
            intro v57 h58
            refine tr_goto 25 dX10_change_71 (by decide) ?_
            exact ih29 _ v18 v57 I26 hl20 hl21 hl22 hl23 hl24 rfl hS27 (by omega) (by omega)
          · skip
            refine tr_iload dX10_change_52 hl24 ?_
            refine tr_iload_n dX10_change_54 hl22 ?_
            refine q_icmp_ne 65 dX10_change_55 (by decide) (fun h59 => ?_) (fun h59 => ?_)
            · skip
              refine q_iinc dX10_change_65 hl24 (by decide) ?_
              intro v60
              refine q_iincE dX10_change_68 hl25 (by decide) (by decide) (by intros; omega) ?_
              intro v61 h62
              refine tr_goto 25 dX10_change_71 (by decide) ?_
              exact ih29 _ v60 v61 I26 hl20 hl21 hl22 hl23 rfl rfl hS27 (by omega) (by omega)
            · skip
              refine tr_aload_n dX10_change_58 hl20 ?_
              refine tr_iload dX10_change_59 hl25 ?_
              refine q_callVi hE (M' := mX10_answered) (as := [_]) dX10_change_61 lk10_109 inX10_answered seX10_answered myX10_answered (by decide) ⟨by decide, by decide⟩ rfl (kR1 hS27.1 ta0) (Nat.le_of_ble_eq_true rfl) rfl rfl (by decide) (by decide) (k_X10_answered hS27.1 ta0) ?_
              rintro v67 cn' K' N' I63 R64 L65 ⟨rfl, rfl, rfl, rfl, rfl, g66, -⟩
              have hS68 := hS27.tr g66 (by decide +kernel) (by decide +kernel)
              exact tr_iret hZ dX10_change_64 rfl (by decide) (by decide) ⟨v67, rfl, rfl, rfl, rfl, rfl, rfl, hS68, trivial⟩
    exact lp29 _ _ v14 v16 I8 rfl rfl rfl rfl rfl rfl hS13 (by omega) (Nat.lt_succ_self _)
  · skip
    refine tr_aload_n dX10_change_8 rfl ?_
    refine q_iconst dX10_change_9 (by decide) ?_
    intro v69 h70
    refine q_callVi hE (M' := mX10_refused) (as := [_]) dX10_change_10 lk10_79 inX10_refused seX10_refused myX10_refused (by decide) ⟨by decide, by decide⟩ rfl (kR1 hS0.1 ta0) (Nat.le_of_ble_eq_true rfl) rfl rfl (by decide) (by decide) (k_X10_refused hS0.1 ta0) ?_
    rintro v75 cn' K' N' I71 R72 L73 ⟨rfl, rfl, rfl, rfl, rfl, g74, -⟩
    have hS76 := hS0.tr g74 (by decide +kernel) (by decide +kernel)
    exact tr_iret hZ dX10_change_13 rfl (by decide) (by decide) ⟨v75, rfl, rfl, rfl, rfl, rfl, rfl, hS76, trivial⟩
set_option maxHeartbeats 4000000 in
theorem k_X0_cheesesIn {l : Launch} {T : Nat → Nat} {cn : Nat} {K N : Nat → Nat} {I0 : cz_I} {R0 : cz_R} {L0 : cz_L} {d : Int} (hW0 : Wf T cn K N I0 R0 d) {a0 : Nat} (ta0 : T a0 = 2) {x1 : Int32} : ConE l mX0_cheesesIn [.ref a0, .int x1] cn K N I0 R0 L0 (ca_i (fun v cn' K' N' I' R' L' => cn = cn' ∧ K = K' ∧ N = N' ∧ I0 = I' ∧ R0 = R' ∧ L0 = L' ∧ True)) := by
  refine ConE.of (by decide +kernel) rfl (Nat.le_of_ble_eq_true rfl) rfl (fun X hX hZ hE => ?_)
  subst hX
  refine q_iconst dX0_cheesesIn_0 (by decide) ?_
  intro v1 h2
  refine tr_istore_n dX0_cheesesIn_1 (by decide) (by decide) ?_
  refine q_iconst dX0_cheesesIn_2 (by decide) ?_
  intro v3 h4
  refine tr_istore_n dX0_cheesesIn_3 (by decide) (by decide) ?_
  have lp12 : ∀ (fu : Nat) (ls : Nat → Option Value) (v5 : Int32) (v6 : Int32), ls 0 = some (.ref a0) → ls 1 = some (.int x1) → ls 2 = some (.int v5) → ls 3 = some (.int v6) → 0 ≤ v6.toInt → (-v6.toInt + 2147483647).toNat < fu → Tr X mX0_cheesesIn 4 ls [] cn K N I0 R0 L0 0 0 := by
    intro fu
    induction fu with
    | zero => intros; rename_i hz; exact absurd hz (Nat.not_lt_zero _)
    | succ fu ih12 =>
      intro ls v5 v6 hl7 hl8 hl9 hl10 g11 hm12
      refine tr_iload_n dX0_cheesesIn_4 hl10 ?_
      refine tr_aload_n dX0_cheesesIn_5 hl7 ?_
      obtain ⟨v14, c15⟩ : ∃ v, I0 a0 5 = v := ⟨_, rfl⟩
      have b16 := iv2_5 hW0 ta0 c15
      refine q_getI dX0_cheesesIn_6 fl0_60 (kR2 hW0 ta0) c15 ?_
      refine q_icmp_ge 31 dX0_cheesesIn_9 (by decide) (fun h17 => ?_) (fun h17 => ?_)
      · skip
        refine tr_iload_n dX0_cheesesIn_31 hl9 ?_
        exact tr_iret hZ dX0_cheesesIn_32 rfl (by decide) (by decide) ⟨v5, rfl, rfl, rfl, rfl, rfl, rfl, rfl, trivial⟩
      · skip
        refine tr_iload_n dX0_cheesesIn_12 hl9 ?_
        refine tr_iload_n dX0_cheesesIn_13 hl8 ?_
        refine tr_aload_n dX0_cheesesIn_14 hl7 ?_
        obtain ⟨a18, d19, ta18⟩ := rf2_6 hW0 ta0
        refine tr_getR dX0_cheesesIn_15 fl0_21 (kR2 hW0 ta0) d19 ?_
        refine tr_iload_n dX0_cheesesIn_18 hl10 ?_
        refine q_iald dX0_cheesesIn_19 (kR20 hW0 ta18) (ti_in (nR20 hW0 ta18) (by omega) (by omega)) ?_
        intro v20 c21
        refine q_callSNi hE (M' := mX10_bit) (as := [_, _]) dX0_cheesesIn_20 lk0_78 inX10_bit myX10_bit ⟨by decide, by decide⟩ rfl (Nat.le_of_ble_eq_true rfl) rfl rfl (by decide) (by decide) (k_X10_bit hW0 ) ?_
        rintro v26 cn' K' N' I22 R23 L24 ⟨rfl, rfl, rfl, rfl, rfl, rfl, -⟩
        refine q_iadd dX0_cheesesIn_23 ?_
        intro v27
        refine tr_istore_n dX0_cheesesIn_24 (by decide) (by decide) ?_
        refine q_iincE dX0_cheesesIn_25 hl10 (by decide) (by decide) (by intros; omega) ?_
        intro v28 h29
        refine tr_goto 4 dX0_cheesesIn_28 (by decide) ?_
        exact ih12 _ v27 v28 hl7 hl8 rfl rfl (by omega) (by omega)
  exact lp12 _ _ v1 v3 rfl rfl rfl rfl (by omega) (Nat.lt_succ_self _)
def wi_X10_peak : List Nat := [73, 81, 768, 769, 778, 2303, 2367, 2431, 2495, 2559, 2623, 2687, 2751, 2815]
def wr_X10_peak : List Nat := []
set_option maxHeartbeats 4000000 in
theorem k_X10_peak {l : Launch} {T : Nat → Nat} {cn : Nat} {K N : Nat → Nat} {I0 : cz_I} {R0 : cz_R} {L0 : cz_L} {d : Int} (hW0 : Wf T cn K N I0 R0 d) {a0 : Nat} (ta0 : T a0 = 1) : ConE l mX10_peak [.ref a0] cn K N I0 R0 L0 (ca_i (fun v cn' K' N' I' R' L' => cn = cn' ∧ K = K' ∧ N = N' ∧ R0 = R' ∧ L0 = L' ∧ St T cn K N d wi_X10_peak wr_X10_peak I0 R0 I' R0 ∧ True)) := by
  refine ConE.of (by decide +kernel) rfl (Nat.le_of_ble_eq_true rfl) rfl (fun X hX hZ hE => ?_)
  subst hX
  have hS0 : St T cn K N d wi_X10_peak wr_X10_peak I0 R0 I0 R0 := St.rf0 hW0
  refine tr_aload_n dX10_peak_0 rfl ?_
  obtain ⟨v1, c2⟩ : ∃ v, I0 a0 5 = v := ⟨_, rfl⟩
  have b3 := iv1_5 hW0 ta0 c2
  refine q_getZ dX10_peak_1 fl10_95 (kR1 hS0.1 ta0) c2 ?_
  refine q_if_ne 13 dX10_peak_4 (by decide) (fun h4 => ?_) (fun h4 => ?_)
  · skip
    refine tr_aload_n dX10_peak_13 rfl ?_
    refine q_callVr hE (M' := mX10_presentSky) (as := []) dX10_peak_14 lk10_119 inX10_presentSky seX10_presentSky myX10_presentSky (by decide) ⟨by decide, by decide⟩ rfl (kR1 hS0.1 ta0) (Nat.le_of_ble_eq_true rfl) rfl rfl (by decide) (by decide) (k_X10_presentSky hS0.1 ta0) ?_
    rintro a9 cn' K' N' I5 R6 L7 ⟨rfl, rfl, rfl, rfl, rfl, g8, ta9, -⟩
    have hS10 := hS0.tr g8 (by decide +kernel) (by decide +kernel)
    refine tr_astore_n dX10_peak_17 (by decide) (by decide) ?_
    refine q_iconst dX10_peak_18 (by decide) ?_
    intro v11 h12
    refine tr_istore_n dX10_peak_19 (by decide) (by decide) ?_
    refine q_bipush dX10_peak_20 (by decide +kernel) ?_
    intro v13 h14
    refine tr_istore_n dX10_peak_22 (by decide) (by decide) ?_
    refine q_iconst dX10_peak_23 (by decide) ?_
    intro v15 h16
    refine tr_istore dX10_peak_24 (by decide) (by decide) ?_
    have lp28 : ∀ (fu : Nat) (ls : Nat → Option Value) (v17 : Int32) (v18 : Int32) (v19 : Int32) (I25 : cz_I), ls 0 = some (.ref a0) → ls 1 = some (.ref a9) → ls 2 = some (.int v17) → ls 3 = some (.int v18) → ls 4 = some (.int v19) → St T cn K N d wi_X10_peak wr_X10_peak I0 R0 I25 R0 → 0 ≤ v19.toInt → (-v19.toInt + 2147483647).toNat < fu → Tr X mX10_peak 26 ls [] cn K N I25 R0 L0 0 0 := by
      intro fu
      induction fu with
      | zero => intros; rename_i hz; exact absurd hz (Nat.not_lt_zero _)
      | succ fu ih28 =>
        intro ls v17 v18 v19 I25 hl20 hl21 hl22 hl23 hl24 hS26 g27 hm28
        refine tr_iload dX10_peak_26 hl24 ?_
        refine tr_aload_n dX10_peak_28 hl20 ?_
        obtain ⟨a30, d31, ta30⟩ := rf1_2 hW0 ta0
        refine tr_getR dX10_peak_29 fl10_16 (kR1 hS26.1 ta0) d31 ?_
        obtain ⟨v32, c33⟩ : ∃ v, I0 a30 0 = v := ⟨_, rfl⟩
        have b34 := iv2_0 hW0 ta30 c33
        refine q_getI dX10_peak_32 fl10_146 (kR2 hS26.1 ta30) ((hS26.cell ta30 (by decide +kernel)).trans c33) ?_
        refine q_icmp_ge 72 dX10_peak_35 (by decide) (fun h35 => ?_) (fun h35 => ?_)
        · skip
          refine tr_aload_n dX10_peak_72 hl20 ?_
          refine tr_iload_n dX10_peak_73 hl23 ?_
          refine q_callVi hE (M' := mX10_answered) (as := [_]) dX10_peak_74 lk10_109 inX10_answered seX10_answered myX10_answered (by decide) ⟨by decide, by decide⟩ rfl (kR1 hS26.1 ta0) (Nat.le_of_ble_eq_true rfl) rfl rfl (by decide) (by decide) (k_X10_answered hS26.1 ta0) ?_
          rintro v40 cn' K' N' I36 R37 L38 ⟨rfl, rfl, rfl, rfl, rfl, g39, -⟩
          have hS41 := hS26.tr g39 (by decide +kernel) (by decide +kernel)
          exact tr_iret hZ dX10_peak_77 rfl (by decide) (by decide) ⟨v40, rfl, rfl, rfl, rfl, rfl, rfl, hS41, trivial⟩
        · skip
          refine tr_aload_n dX10_peak_38 hl20 ?_
          refine tr_getR dX10_peak_39 fl10_16 (kR1 hS26.1 ta0) d31 ?_
          refine tr_aload_n dX10_peak_42 hl21 ?_
          obtain ⟨a42, d43, ta42⟩ := rf12_8 hW0 ta9
          refine tr_getR dX10_peak_43 fl10_143 (kR12 hS26.1 ta9) d43 ?_
          refine tr_iload dX10_peak_46 hl24 ?_
          refine q_iald dX10_peak_48 (kR41 hS26.1 ta42) (ti_in (nR41 hS26.1 ta42) (by omega) (by omega)) ?_
          intro v44 c45
          refine q_callVi hE (M' := mX0_cheesesIn) (as := [_]) dX10_peak_49 lk10_149 inX0_cheesesIn seX0_cheesesIn myX0_cheesesIn (by decide) ⟨by decide, by decide⟩ rfl (kR2 hS26.1 ta30) (Nat.le_of_ble_eq_true rfl) rfl rfl (by decide) (by decide) (k_X0_cheesesIn hS26.1 ta30) ?_
          rintro v50 cn' K' N' I46 R47 L48 ⟨rfl, rfl, rfl, rfl, rfl, rfl, -⟩
          refine tr_istore dX10_peak_52 (by decide) (by decide) ?_
          refine tr_iload dX10_peak_54 rfl ?_
          refine tr_iload_n dX10_peak_56 hl22 ?_
          refine q_icmp_le 66 dX10_peak_57 (by decide) (fun h51 => ?_) (fun h51 => ?_)
          · skip
            refine q_iincE dX10_peak_66 hl24 (by decide) (by decide) (by intros; omega) ?_
            intro v52 h53
            refine tr_goto 26 dX10_peak_69 (by decide) ?_
            exact ih28 _ v17 v18 v52 I25 hl20 hl21 hl22 hl23 rfl hS26 (by omega) (by omega)
          · skip
            refine tr_iload dX10_peak_60 rfl ?_
            refine tr_istore_n dX10_peak_62 (by decide) (by decide) ?_
            refine tr_iload dX10_peak_63 hl24 ?_
            refine tr_istore_n dX10_peak_65 (by decide) (by decide) ?_
            refine q_iincE dX10_peak_66 hl24 (by decide) (by decide) (by intros; omega) ?_
            intro v54 h55
            refine tr_goto 26 dX10_peak_69 (by decide) ?_
            exact ih28 _ v50 v19 v54 I25 hl20 hl21 rfl rfl rfl hS26 (by omega) (by omega)
    exact lp28 _ _ v11 v13 v15 I5 rfl rfl rfl rfl rfl hS10 (by omega) (Nat.lt_succ_self _)
  · skip
    refine tr_aload_n dX10_peak_7 rfl ?_
    refine q_iconst dX10_peak_8 (by decide) ?_
    intro v56 h57
    refine q_callVi hE (M' := mX10_refused) (as := [_]) dX10_peak_9 lk10_79 inX10_refused seX10_refused myX10_refused (by decide) ⟨by decide, by decide⟩ rfl (kR1 hS0.1 ta0) (Nat.le_of_ble_eq_true rfl) rfl rfl (by decide) (by decide) (k_X10_refused hS0.1 ta0) ?_
    rintro v62 cn' K' N' I58 R59 L60 ⟨rfl, rfl, rfl, rfl, rfl, g61, -⟩
    have hS63 := hS0.tr g61 (by decide +kernel) (by decide +kernel)
    exact tr_iret hZ dX10_peak_12 rfl (by decide) (by decide) ⟨v62, rfl, rfl, rfl, rfl, rfl, rfl, hS63, trivial⟩
