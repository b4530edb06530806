def wik_X10_fewestTurners : List Nat := [73, 75, 768, 769, 778, 834, 2303, 2367, 2431, 2495, 2559, 2623, 2687, 2751, 2815, 2879, 2943, 3007, 3071, 3135, 3199, 3263, 3327, 3391]
def wrk_X10_fewestTurners : List Nat := [832, 833]
set_option maxHeartbeats 4000000 in
theorem fk_X10_fewestTurners {l : Launch} {T : Nat → Nat} {cn : Nat} {K N : Nat → Nat} {I0 : cz_I} {R0 : cz_R} {L0 : cz_L} {d : Int} (hW0 : Wf T cn K N I0 R0 d) (gX : Nat → Nat → Int) {a0 : Nat} (ta0 : T a0 = 1) (hX : EvQ I0 R0 a0 gX) (hK : SkQ I0 R0 a0 gX) (hD : DjS R0 a0) : ConE l mX10_fewestTurners [.ref a0] cn K N I0 R0 L0 (ca_i (fun v cn' K' N' I' R' L' => cn = cn' ∧ K = K' ∧ N = N' ∧ L0 = L' ∧ St T cn K N d wik_X10_fewestTurners wrk_X10_fewestTurners I0 R0 I' R' ∧ (SkQ I' R0 a0 gX) ∧ True)) := by
  refine ConE.of (by decide +kernel) rfl (Nat.le_of_ble_eq_true rfl) rfl (fun X hX hZ hE => ?_)
  subst hX
  have hS0 : St T cn K N d wik_X10_fewestTurners wrk_X10_fewestTurners I0 R0 I0 R0 := St.rf0 hW0
  obtain ⟨a1, d2, ta1⟩ := rf1_2 hW0 ta0
  obtain ⟨a3, d4, ta3⟩ := rf1_6 hW0 ta0
  obtain ⟨a5, d6, ta5⟩ := rf1_8 hW0 ta0
  obtain ⟨a7, d8, ta7⟩ := rf1_13 hW0 ta0
  refine tr_aload_n dX10_fewestTurners_0 rfl ?_
  refine q_callVr hE (M' := mX10_presentNight) (as := []) dX10_fewestTurners_1 lk10_155 inX10_presentNight seX10_presentNight myX10_presentNight (by decide) ⟨by decide, by decide⟩ rfl (kR1 hS0.1 ta0) (Nat.le_of_ble_eq_true rfl) rfl rfl (by decide) (by decide) (fk_X10_presentNight hS0.1 (gX) ta0 hX hK hD) ?_
  rintro a14 cn' K' N' I9 R10 L11 ⟨rfl, rfl, rfl, rfl, g12, ta14, rp15, -⟩
  have hS16 := hS0.tr g12 (by decide +kernel) (by decide +kernel)
  refine q_callVi hE (M' := mX5_missesAny) (as := []) dX10_fewestTurners_4 lk10_374 inX5_missesAny seX5_missesAny myX5_missesAny (by decide) ⟨by decide, by decide⟩ rfl (kR13 hS16.1 ta14) (Nat.le_of_ble_eq_true rfl) rfl rfl (by decide) (by decide) (k_X5_missesAny hS16.1 ta14) ?_
  rintro v21 cn' K' N' I17 R18 L19 ⟨rfl, rfl, rfl, rfl, rfl, rfl, h22, -⟩
  refine q_if_eq 13 dX10_fewestTurners_7 (by decide) (fun h23 => ?_) (fun h23 => ?_)
  · skip
    refine tr_aload_n dX10_fewestTurners_13 rfl ?_
    refine q_callVi hE (M' := mX10_allTurners) (as := []) dX10_fewestTurners_14 lk10_184 inX10_allTurners seX10_allTurners myX10_allTurners (by decide) ⟨by decide, by decide⟩ rfl (kR1 hS16.1 ta0) (Nat.le_of_ble_eq_true rfl) rfl rfl (by decide) (by decide) (k_X10_allTurners hS16.1 ta0) ?_
    rintro v28 cn' K' N' I24 R25 L26 ⟨rfl, rfl, rfl, rfl, rfl, rfl, h29, -⟩
    refine tr_istore_n dX10_fewestTurners_17 (by decide) (by decide) ?_
    refine q_iconst dX10_fewestTurners_18 (by decide) ?_
    intro v30 h31
    refine tr_istore_n dX10_fewestTurners_19 (by decide) (by decide) ?_
    have lp42 : ∀ (fu : Nat) (ls : Nat → Option Value) (v32 : Int32) (v33 : Int32) (I37 : cz_I) (R38 : cz_R), ls 0 = some (.ref a0) → ls 1 = some (.int v32) → ls 2 = some (.int v33) → St T cn K N d wik_X10_fewestTurners wrk_X10_fewestTurners I0 R0 I37 R38 → 0 ≤ v33.toInt → (SkQ I37 R0 a0 gX) → (-v33.toInt + 2147483647).toNat < fu → Tr X mX10_fewestTurners 20 ls [] cn K N I37 R38 L0 0 0 := by
      intro fu
      induction fu with
      | zero => intros; rename_i hz; exact absurd hz (Nat.not_lt_zero _)
      | succ fu ih42 =>
        intro ls v32 v33 I37 R38 hl34 hl35 hl36 hS39 g40 rw41 hm42
        refine tr_iload_n dX10_fewestTurners_20 hl36 ?_
        refine tr_aload_n dX10_fewestTurners_21 hl34 ?_
        refine q_callVi hE (M' := mX10_allTurners) (as := []) dX10_fewestTurners_22 lk10_184 inX10_allTurners seX10_allTurners myX10_allTurners (by decide) ⟨by decide, by decide⟩ rfl (kR1 hS39.1 ta0) (Nat.le_of_ble_eq_true rfl) rfl rfl (by decide) (by decide) (k_X10_allTurners hS39.1 ta0) ?_
        rintro v48 cn' K' N' I44 R45 L46 ⟨rfl, rfl, rfl, rfl, rfl, rfl, h49, -⟩
        refine q_icmp_ge 80 dX10_fewestTurners_25 (by decide) (fun h50 => ?_) (fun h50 => ?_)
        · skip
          refine tr_iload_n dX10_fewestTurners_80 hl35 ?_
          exact tr_iret hZ dX10_fewestTurners_81 rfl (by decide) (by decide) ⟨v32, rfl, rfl, rfl, rfl, rfl, hS39, rw41, trivial⟩
        · skip
          refine tr_iload_n dX10_fewestTurners_28 hl36 ?_
          refine q_callSi hE (M' := mJ6_bitCount_0f7a4) (as := [_]) dX10_fewestTurners_29 lk10_247 inJ6_bitCount_0f7a4 myJ6_bitCount_0f7a4 ⟨by decide, by decide⟩ rfl (Nat.le_of_ble_eq_true rfl) rfl rfl (by decide) (by decide) (k_J6_bitCount_0f7a4 hS39.1 ) ?_
          rintro v55 cn' K' N' I51 R52 L53 ⟨rfl, rfl, rfl, rfl, rfl, rfl, -⟩
          refine tr_iload_n dX10_fewestTurners_32 hl35 ?_
          refine q_callSi hE (M' := mJ6_bitCount_0f7a4) (as := [_]) dX10_fewestTurners_33 lk10_247 inJ6_bitCount_0f7a4 myJ6_bitCount_0f7a4 ⟨by decide, by decide⟩ rfl (Nat.le_of_ble_eq_true rfl) rfl rfl (by decide) (by decide) (k_J6_bitCount_0f7a4 hS39.1 ) ?_
          rintro v60 cn' K' N' I56 R57 L58 ⟨rfl, rfl, rfl, rfl, rfl, rfl, -⟩
          refine q_icmp_ge 74 dX10_fewestTurners_36 (by decide) (fun h61 => ?_) (fun h61 => ?_)
          · skip
            refine q_iincE dX10_fewestTurners_74 hl36 (by decide) (by decide) (by intros; omega) ?_
            intro v62 h63
            refine tr_goto 20 dX10_fewestTurners_77 (by decide) ?_
            exact ih42 _ v32 v62 I37 R38 hl34 hl35 rfl hS39 (by omega) rw41 (by omega)
          · skip
            refine tr_aload_n dX10_fewestTurners_39 hl34 ?_
            obtain ⟨a64, d65, ta64⟩ := rf1_14 hW0 ta0
            refine tr_getR dX10_fewestTurners_40 fl10_68 (kR1 hS39.1 ta0) ((hS39.rcell ta0 (by decide +kernel)).trans d65) ?_
            refine tr_aload_n dX10_fewestTurners_43 hl34 ?_
            refine tr_getR dX10_fewestTurners_44 fl10_16 (kR1 hS39.1 ta0) ((hS39.rcell ta0 (by decide +kernel)).trans d2) ?_
            refine tr_aload_n dX10_fewestTurners_47 hl34 ?_
            refine q_callVr hE (M' := mX10_presentSky) (as := []) dX10_fewestTurners_48 lk10_119 inX10_presentSky seX10_presentSky myX10_presentSky (by decide) ⟨by decide, by decide⟩ rfl (kR1 hS39.1 ta0) (Nat.le_of_ble_eq_true rfl) rfl rfl (by decide) (by decide) (fk_X10_presentSky hS39.1 (gX) ta0 (EvQ.rc (EvQ.st hX hW0 ta0 hS39 (by decide +kernel)) hW0 ta0 (R13 hS39 (by decide +kernel))) (SkQ.rc rw41 hW0 ta0 (R13 hS39 (by decide +kernel))) (DjS.rc hD hW0 ta0 (R13 hS39 (by decide +kernel)))) ?_
            rintro a71 cn' K' N' I66 R67 L68 ⟨rfl, rfl, rfl, rfl, rfl, g69, ta71, p72, rp73, rp74, rp75, -⟩
            have hS76 := hS39.tr g69 (by decide +kernel) (by decide +kernel)
            obtain ⟨v77, c78⟩ : ∃ v, I66 a0 9 = v := ⟨_, rfl⟩
            have b79 := iv1_9 hS76.1 ta0 c78
            rw [c78] at p72
            refine tr_aload_n dX10_fewestTurners_51 hl34 ?_
            refine tr_getR dX10_fewestTurners_52 fl10_35 (kR1 hS76.1 ta0) ((hS76.rcell ta0 (by decide +kernel)).trans d4) ?_
            obtain ⟨v80, c81⟩ : ∃ v, I0 a3 0 = v := ⟨_, rfl⟩
            refine q_getI dX10_fewestTurners_55 fl10_181 (kR8 hS76.1 ta3) ((hS76.cell ta3 (by decide +kernel)).trans c81) ?_
            refine tr_iload_n dX10_fewestTurners_58 hl36 ?_
            refine q_callVv hE (M' := mX5_play) (as := [_, _, _, _]) dX10_fewestTurners_59 lk10_188 inX5_play seX5_play myX5_play (by decide) ⟨by decide, by decide⟩ rfl (kR13 hS76.1 ta64) (Nat.le_of_ble_eq_true rfl) rfl rfl (by decide) (by decide) (k_X5_play hS76.1 ta64 ta1 ta71) ?_
            rintro cn' K' N' I82 R83 L84 ⟨rfl, rfl, rfl, rfl, g85, -⟩
            have hS87 := hS76.tr g85 (by decide +kernel) (by decide +kernel)
            have c88 : I82 a0 9 = v77 := (g85.cell ta0 (by decide +kernel)).trans c78
            refine tr_aload_n dX10_fewestTurners_62 hl34 ?_
            refine tr_getR dX10_fewestTurners_63 fl10_68 (kR1 hS87.1 ta0) ((hS87.rcell ta0 (by decide +kernel)).trans d65) ?_
            refine q_callVi hE (M' := mX5_missesAny) (as := []) dX10_fewestTurners_66 lk10_374 inX5_missesAny seX5_missesAny myX5_missesAny (by decide) ⟨by decide, by decide⟩ rfl (kR13 hS87.1 ta64) (Nat.le_of_ble_eq_true rfl) rfl rfl (by decide) (by decide) (k_X5_missesAny hS87.1 ta64) ?_
            rintro v93 cn' K' N' I89 R90 L91 ⟨rfl, rfl, rfl, rfl, rfl, rfl, h94, -⟩
            refine q_if_ne 74 dX10_fewestTurners_69 (by decide) (fun h95 => ?_) (fun h95 => ?_)
            · skip
              refine q_iincE dX10_fewestTurners_74 hl36 (by decide) (by decide) (by intros; omega) ?_
              intro v96 h97
              refine tr_goto 20 dX10_fewestTurners_77 (by decide) ?_
              exact ih42 _ v32 v96 I82 R83 hl34 hl35 rfl hS87 (by omega) (SkQ.st (SkQ.of (SkW.rc rp74 hS39.1 ta0 (fun a j q => (R13 hS39 (by decide +kernel) a j q).symm))) hW0 ta0 g85 (by decide +kernel) (by decide +kernel)) (by omega)
            · skip
              refine tr_iload_n dX10_fewestTurners_72 hl36 ?_
              refine tr_istore_n dX10_fewestTurners_73 (by decide) (by decide) ?_
              refine q_iincE dX10_fewestTurners_74 hl36 (by decide) (by decide) (by intros; omega) ?_
              intro v98 h99
              refine tr_goto 20 dX10_fewestTurners_77 (by decide) ?_
              exact ih42 _ v33 v98 I82 R83 hl34 rfl rfl hS87 (by omega) (SkQ.st (SkQ.of (SkW.rc rp74 hS39.1 ta0 (fun a j q => (R13 hS39 (by decide +kernel) a j q).symm))) hW0 ta0 g85 (by decide +kernel) (by decide +kernel)) (by omega)
    exact lp42 _ _ v28 v30 I9 R10 rfl rfl rfl hS16 (by omega) rp15 (Nat.lt_succ_self _)
  · skip
    refine q_bipush dX10_fewestTurners_10 (by decide +kernel) ?_
    intro v100 h101
    exact tr_iret hZ dX10_fewestTurners_12 rfl (by decide) (by decide) ⟨v100, rfl, rfl, rfl, rfl, rfl, hS16, rp15, trivial⟩
def wik_X10_sky : List Nat := [73, 81, 768, 769, 778, 2303, 2367, 2431, 2495, 2559, 2623, 2687, 2751, 2815]
def wrk_X10_sky : List Nat := []
def Cs_X10_sky (T : Nat → Nat) (I0 : cz_I) (R0 : cz_R) (a0 : Nat) (gX : Nat → Nat → Int) (x1 : Int32) (v : Int32) (I' : cz_I) (R' : cz_R) : Prop :=
  (((I0 a0 5).toInt = 0) ∧ (v.toInt = -1) ∧ True) ∨
  (((I0 a0 5).toInt = 1) ∧ (∀ b1, R0 a0 2 = some b1 → (x1.toInt < 0 ∨ x1.toInt ≥ (I0 b1 0).toInt)) ∧ (v.toInt = -1) ∧ True) ∨
  (((I0 a0 5).toInt = 1) ∧ (0 ≤ x1.toInt) ∧ (∀ b1, R0 a0 2 = some b1 → x1.toInt < (I0 b1 0).toInt) ∧ (∀ al nw, R0 a0 2 = some al → R0 a0 6 = some nw → v.toInt = skB gX (-1) ((I0 al 3).toInt.toNat + (I0 nw 2).toInt.toNat) x1.toInt) ∧ True)
set_option maxHeartbeats 4000000 in
theorem fk_X10_sky {l : Launch} {T : Nat → Nat} {cn : Nat} {K N : Nat → Nat} {I0 : cz_I} {R0 : cz_R} {L0 : cz_L} {d : Int} (hW0 : Wf T cn K N I0 R0 d) (gX : Nat → Nat → Int) {a0 : Nat} (ta0 : T a0 = 1) {x1 : Int32} (hX : EvQ I0 R0 a0 gX) (hK : SkQ I0 R0 a0 gX) (hD : DjS R0 a0) : ConE l mX10_sky [.ref a0, .int x1] cn K N I0 R0 L0 (ca_i (fun v cn' K' N' I' R' L' => cn = cn' ∧ K = K' ∧ N = N' ∧ R0 = R' ∧ L0 = L' ∧ St T cn K N d wik_X10_sky wrk_X10_sky I0 R0 I' R0 ∧ (SkQ I' R0 a0 gX) ∧ Cs_X10_sky T I0 R0 a0 gX x1 v I' R0 ∧ True)) := by
  refine ConE.of (by decide +kernel) rfl (Nat.le_of_ble_eq_true rfl) rfl (fun X hX hZ hE => ?_)
  subst hX
  have hS0 : St T cn K N d wik_X10_sky wrk_X10_sky I0 R0 I0 R0 := St.rf0 hW0
  obtain ⟨v1, c2⟩ : ∃ v, I0 a0 5 = v := ⟨_, rfl⟩
  have b3 := iv1_5 hW0 ta0 c2
  obtain ⟨a4, d5, ta4⟩ := rf1_2 hW0 ta0
  obtain ⟨v6, c7⟩ : ∃ v, I0 a4 0 = v := ⟨_, rfl⟩
  have b8 := iv2_0 hW0 ta4 c7
  obtain ⟨a9, d10, ta9⟩ := rf1_6 hW0 ta0
  obtain ⟨a11, d12, ta11⟩ := rf1_8 hW0 ta0
  obtain ⟨a13, d14, ta13⟩ := rf1_13 hW0 ta0
  obtain ⟨v15, c16⟩ : ∃ v, I0 a4 1 = v := ⟨_, rfl⟩
  have b17 := iv2_1 hW0 ta4 c16
  obtain ⟨v18, c19⟩ : ∃ v, I0 a4 3 = v := ⟨_, rfl⟩
  have b20 := iv2_3 hW0 ta4 c19
  refine tr_aload_n dX10_sky_0 rfl ?_
  refine q_getZ dX10_sky_1 fl10_95 (kR1 hS0.1 ta0) c2 ?_
  refine q_if_ne 13 dX10_sky_4 (by decide) (fun h21 => ?_) (fun h21 => ?_)
  · skip
    refine tr_aload_n dX10_sky_13 rfl ?_
    refine tr_iload_n dX10_sky_14 rfl ?_
    refine q_callVi hE (M' := mX10_isMinute) (as := [_]) dX10_sky_15 lk10_115 inX10_isMinute seX10_isMinute myX10_isMinute (by decide) ⟨by decide, by decide⟩ rfl (kR1 hS0.1 ta0) (Nat.le_of_ble_eq_true rfl) rfl rfl (by decide) (by decide) (fk_X10_isMinute hS0.1  ta0) ?_
    rintro v27 cn' K' N' I22 R23 L24 ⟨rfl, rfl, rfl, rfl, rfl, rfl, h28, p29, p30, -⟩
    have p31 := p29 _ d5
    clear p29
    rw [c7] at p31
    have p32 := p30 _ d5
    clear p30
    rw [c7] at p32
    refine q_if_ne 27 dX10_sky_18 (by decide) (fun h33 => ?_) (fun h33 => ?_)
    · skip
      refine tr_aload_n dX10_sky_27 rfl ?_
      refine tr_aload_n dX10_sky_28 rfl ?_
      refine q_callVr hE (M' := mX10_presentSky) (as := []) dX10_sky_29 lk10_119 inX10_presentSky seX10_presentSky myX10_presentSky (by decide) ⟨by decide, by decide⟩ rfl (kR1 hS0.1 ta0) (Nat.le_of_ble_eq_true rfl) rfl rfl (by decide) (by decide) (fk_X10_presentSky hS0.1 (gX) ta0 hX hK hD) ?_
      rintro a39 cn' K' N' I34 R35 L36 ⟨rfl, rfl, rfl, rfl, rfl, g37, ta39, p40, rp41, rp42, rp43, -⟩
      have hS44 := hS0.tr g37 (by decide +kernel) (by decide +kernel)
      obtain ⟨v45, c46⟩ : ∃ v, I34 a0 9 = v := ⟨_, rfl⟩
      have b47 := iv1_9 hS44.1 ta0 c46
      rw [c46] at p40
      have hz48 := rp43 _ _ _ rp41 d5 d10
      refine tr_iload_n dX10_sky_32 rfl ?_
      refine q_callVi hE (M' := mX8_isBright) (as := [_]) dX10_sky_33 lk10_123 inX8_isBright seX8_isBright myX8_isBright (by decide) ⟨by decide, by decide⟩ rfl (kR12 hS44.1 ta39) (Nat.le_of_ble_eq_true rfl) rfl rfl (by decide) (by decide) (fk_X8_isBright hS44.1  ta39 (by omega)) ?_
      rintro v54 cn' K' N' I49 R50 L51 ⟨rfl, rfl, rfl, rfl, rfl, rfl, h55, rp56, -⟩
      refine q_if_eq 43 dX10_sky_36 (by decide) (fun h57 => ?_) (fun h57 => ?_)
      · skip
        refine q_iconst dX10_sky_43 (by decide) ?_
        intro v58 h59
        refine q_callVi hE (M' := mX10_answered) (as := [_]) dX10_sky_44 lk10_109 inX10_answered seX10_answered myX10_answered (by decide) ⟨by decide, by decide⟩ rfl (kR1 hS44.1 ta0) (Nat.le_of_ble_eq_true rfl) rfl rfl (by decide) (by decide) (fk_X10_answered hS44.1  ta0) ?_
        rintro v65 cn' K' N' I60 R61 L62 ⟨rfl, rfl, rfl, rfl, rfl, g63, p66, p67, -⟩
        have hS68 := hS44.tr g63 (by decide +kernel) (by decide +kernel)
        have c69 : I60 a0 9 = v45 := (g63.cell ta0 (by decide +kernel)).trans c46
        obtain ⟨v70, c71⟩ : ∃ v, I60 a0 17 = v := ⟨_, rfl⟩
        rw [c71] at p67
        obtain ⟨a72, d73, ta72⟩ := rf12_2 hW0 ta39
        obtain ⟨a74, d75, ta74⟩ := rf12_3 hW0 ta39
        obtain ⟨a76, d77, ta76⟩ := rf12_4 hW0 ta39
        exact tr_iret hZ dX10_sky_47 rfl (by decide) (by decide) ⟨v65, rfl, rfl, rfl, rfl, rfl, rfl, hS68, (SkQ.st (SkQ.of rp42) hW0 ta0 g63 (by decide +kernel) (by decide +kernel)), (Or.inr (Or.inr (⟨(by (try rw [c2]); first | done | with_reducible assumption | omega), (by first | done | with_reducible assumption | omega), (fun q0 z0 => by obtain rfl := Option.some.inj ((d5).symm.trans z0); (try rw [c7]); first | done | with_reducible assumption | omega), (fun al nw h2 h6 => by obtain rfl := Option.some.inj (d5.symm.trans h2); obtain rfl := Option.some.inj (d10.symm.trans h6); have e := SkF.br (ix := x1.toInt.toNat) hz48 d73 d75 d77 (by rw [c7]; omega) (rp56 _ _ _ d73 d75 d77); rw [show ((x1.toInt.toNat : Nat) : Int) = x1.toInt by omega] at e; omega), trivial⟩))), trivial⟩
      · skip
        refine q_iconst dX10_sky_39 (by decide) ?_
        intro v78 h79
        refine tr_goto 44 dX10_sky_40 (by decide) ?_
        refine q_callVi hE (M' := mX10_answered) (as := [_]) dX10_sky_44 lk10_109 inX10_answered seX10_answered myX10_answered (by decide) ⟨by decide, by decide⟩ rfl (kR1 hS44.1 ta0) (Nat.le_of_ble_eq_true rfl) rfl rfl (by decide) (by decide) (fk_X10_answered hS44.1  ta0) ?_
        rintro v85 cn' K' N' I80 R81 L82 ⟨rfl, rfl, rfl, rfl, rfl, g83, p86, p87, -⟩
        have hS88 := hS44.tr g83 (by decide +kernel) (by decide +kernel)
        have c89 : I80 a0 9 = v45 := (g83.cell ta0 (by decide +kernel)).trans c46
        obtain ⟨v90, c91⟩ : ∃ v, I80 a0 17 = v := ⟨_, rfl⟩
        rw [c91] at p87
        obtain ⟨a92, d93, ta92⟩ := rf12_2 hW0 ta39
        obtain ⟨a94, d95, ta94⟩ := rf12_3 hW0 ta39
        obtain ⟨a96, d97, ta96⟩ := rf12_4 hW0 ta39
        exact tr_iret hZ dX10_sky_47 rfl (by decide) (by decide) ⟨v85, rfl, rfl, rfl, rfl, rfl, rfl, hS88, (SkQ.st (SkQ.of rp42) hW0 ta0 g83 (by decide +kernel) (by decide +kernel)), (Or.inr (Or.inr (⟨(by (try rw [c2]); first | done | with_reducible assumption | omega), (by first | done | with_reducible assumption | omega), (fun q0 z0 => by obtain rfl := Option.some.inj ((d5).symm.trans z0); (try rw [c7]); first | done | with_reducible assumption | omega), (fun al nw h2 h6 => by obtain rfl := Option.some.inj (d5.symm.trans h2); obtain rfl := Option.some.inj (d10.symm.trans h6); have e := SkF.br (ix := x1.toInt.toNat) hz48 d93 d95 d97 (by rw [c7]; omega) (rp56 _ _ _ d93 d95 d97); rw [show ((x1.toInt.toNat : Nat) : Int) = x1.toInt by omega] at e; omega), trivial⟩))), trivial⟩
    · skip
      refine tr_aload_n dX10_sky_21 rfl ?_
      refine q_iconst dX10_sky_22 (by decide) ?_
      intro v98 h99
      refine q_callVi hE (M' := mX10_refused) (as := [_]) dX10_sky_23 lk10_79 inX10_refused seX10_refused myX10_refused (by decide) ⟨by decide, by decide⟩ rfl (kR1 hS0.1 ta0) (Nat.le_of_ble_eq_true rfl) rfl rfl (by decide) (by decide) (fk_X10_refused hS0.1  ta0) ?_
      rintro v105 cn' K' N' I100 R101 L102 ⟨rfl, rfl, rfl, rfl, rfl, g103, p106, p107, -⟩
      have hS108 := hS0.tr g103 (by decide +kernel) (by decide +kernel)
      obtain ⟨v109, c110⟩ : ∃ v, I100 a0 17 = v := ⟨_, rfl⟩
      rw [c110] at p107
      exact tr_iret hZ dX10_sky_26 rfl (by decide) (by decide) ⟨v105, rfl, rfl, rfl, rfl, rfl, rfl, hS108, (SkQ.st hK hW0 ta0 g103 (by decide +kernel) (by decide +kernel)), (by first | exact Or.inr (Or.inl ⟨(by (try rw [c2]); first | done | with_reducible assumption | omega), (fun q0 z0 => by obtain rfl := Option.some.inj ((d5).symm.trans z0); (try rw [c7]); first | done | with_reducible assumption | omega), (by first | done | with_reducible assumption | omega), trivial⟩) | exact Or.inr (Or.inr (⟨(by (try rw [c2]); first | done | with_reducible assumption | omega), (by first | done | with_reducible assumption | omega), (fun q0 z0 => by obtain rfl := Option.some.inj ((d5).symm.trans z0); (try rw [c7]); first | done | with_reducible assumption | omega), (by exfalso; omega), trivial⟩))), trivial⟩
  · skip
    refine tr_aload_n dX10_sky_7 rfl ?_
    refine q_iconst dX10_sky_8 (by decide) ?_
    intro v111 h112
    refine q_callVi hE (M' := mX10_refused) (as := [_]) dX10_sky_9 lk10_79 inX10_refused seX10_refused myX10_refused (by decide) ⟨by decide, by decide⟩ rfl (kR1 hS0.1 ta0) (Nat.le_of_ble_eq_true rfl) rfl rfl (by decide) (by decide) (fk_X10_refused hS0.1  ta0) ?_
    rintro v118 cn' K' N' I113 R114 L115 ⟨rfl, rfl, rfl, rfl, rfl, g116, p119, p120, -⟩
    have hS121 := hS0.tr g116 (by decide +kernel) (by decide +kernel)
    obtain ⟨v122, c123⟩ : ∃ v, I113 a0 17 = v := ⟨_, rfl⟩
    rw [c123] at p120
    exact tr_iret hZ dX10_sky_12 rfl (by decide) (by decide) ⟨v118, rfl, rfl, rfl, rfl, rfl, rfl, hS121, (SkQ.st hK hW0 ta0 g116 (by decide +kernel) (by decide +kernel)), (Or.inl ⟨(by (try rw [c2]); first | done | with_reducible assumption | omega), (by first | done | with_reducible assumption | omega), trivial⟩), trivial⟩
set_option maxHeartbeats 4000000 in
theorem fk_X10_isHut {l : Launch} {T : Nat → Nat} {cn : Nat} {K N : Nat → Nat} {I0 : cz_I} {R0 : cz_R} {L0 : cz_L} {d : Int} (hW0 : Wf T cn K N I0 R0 d)  {a0 : Nat} (ta0 : T a0 = 1) {x1 : Int32} : ConE l mX10_isHut [.ref a0, .int x1] cn K N I0 R0 L0 (ca_i (fun v cn' K' N' I' R' L' => cn = cn' ∧ K = K' ∧ N = N' ∧ I0 = I' ∧ R0 = R' ∧ L0 = L' ∧ (0 ≤ v.toInt ∧ v.toInt ≤ 1) ∧ (∀ b1, R0 a0 2 = some b1 → (v.toInt = 1 → (0 ≤ x1.toInt ∧ x1.toInt < (I0 b1 1).toInt))) ∧ (∀ b1, R0 a0 2 = some b1 → (v.toInt = 0 → (x1.toInt < 0 ∨ x1.toInt ≥ (I0 b1 1).toInt))) ∧ True)) := by
  refine ConE.of (by decide +kernel) rfl (Nat.le_of_ble_eq_true rfl) rfl (fun X hX hZ hE => ?_)
  subst hX
  obtain ⟨a1, d2, ta1⟩ := rf1_2 hW0 ta0
  obtain ⟨v3, c4⟩ : ∃ v, I0 a1 1 = v := ⟨_, rfl⟩
  have b5 := iv2_1 hW0 ta1 c4
  refine tr_iload_n dX10_isHut_0 rfl ?_
  refine q_if_lt 19 dX10_isHut_1 (by decide) (fun h6 => ?_) (fun h6 => ?_)
  · skip
    refine q_iconst dX10_isHut_19 (by decide) ?_
    intro v7 h8
    exact tr_zret hZ dX10_isHut_20 rfl (ti_b01 (by omega) (by omega)) (by decide) (by decide) ⟨v7, rfl, rfl, rfl, rfl, rfl, rfl, rfl, (by omega), (fun q0 z0 => by obtain rfl := Option.some.inj ((d2).symm.trans z0); (try rw [c4]); first | done | with_reducible assumption | omega), (fun q0 z0 => by obtain rfl := Option.some.inj ((d2).symm.trans z0); (try rw [c4]); first | done | with_reducible assumption | omega), trivial⟩
  · skip
    refine tr_iload_n dX10_isHut_4 rfl ?_
    refine tr_aload_n dX10_isHut_5 rfl ?_
    refine tr_getR dX10_isHut_6 fl10_16 (kR1 hW0 ta0) d2 ?_
    refine q_getI dX10_isHut_9 fl10_332 (kR2 hW0 ta1) c4 ?_
    refine q_icmp_ge 19 dX10_isHut_12 (by decide) (fun h9 => ?_) (fun h9 => ?_)
    · skip
      refine q_iconst dX10_isHut_19 (by decide) ?_
      intro v10 h11
      exact tr_zret hZ dX10_isHut_20 rfl (ti_b01 (by omega) (by omega)) (by decide) (by decide) ⟨v10, rfl, rfl, rfl, rfl, rfl, rfl, rfl, (by omega), (fun q0 z0 => by obtain rfl := Option.some.inj ((d2).symm.trans z0); (try rw [c4]); first | done | with_reducible assumption | omega), (fun q0 z0 => by obtain rfl := Option.some.inj ((d2).symm.trans z0); (try rw [c4]); first | done | with_reducible assumption | omega), trivial⟩
    · skip
      refine q_iconst dX10_isHut_15 (by decide) ?_
      intro v12 h13
      refine tr_goto 20 dX10_isHut_16 (by decide) ?_
      exact tr_zret hZ dX10_isHut_20 rfl (ti_b01 (by omega) (by omega)) (by decide) (by decide) ⟨v12, rfl, rfl, rfl, rfl, rfl, rfl, rfl, (by omega), (fun q0 z0 => by obtain rfl := Option.some.inj ((d2).symm.trans z0); (try rw [c4]); first | done | with_reducible assumption | omega), (fun q0 z0 => by obtain rfl := Option.some.inj ((d2).symm.trans z0); (try rw [c4]); first | done | with_reducible assumption | omega), trivial⟩
def wik_X10_light : List Nat := [73, 81, 768, 769, 778, 2303, 2367, 2431, 2495, 2559, 2623, 2687, 2751, 2815]
def wrk_X10_light : List Nat := []
def Cs_X10_light (T : Nat → Nat) (I0 : cz_I) (R0 : cz_R) (a0 : Nat) (gX : Nat → Nat → Int) (x1 : Int32) (x2 : Int32) (x3 : Int32) (v : Int32) (I' : cz_I) (R' : cz_R) : Prop :=
  ((∀ b1, R0 a0 2 = some b1 → (x1.toInt < 0 ∨ x1.toInt ≥ (I0 b1 1).toInt)) ∧ (v.toInt = -1) ∧ True) ∨
  ((0 ≤ x1.toInt) ∧ (∀ b1, R0 a0 2 = some b1 → x1.toInt < (I0 b1 1).toInt) ∧ (∀ b1, R0 a0 2 = some b1 → (x2.toInt < 0 ∨ x2.toInt ≥ (I0 b1 0).toInt)) ∧ (v.toInt = -1) ∧ True) ∨
  ((0 ≤ x1.toInt) ∧ (∀ b1, R0 a0 2 = some b1 → x1.toInt < (I0 b1 1).toInt) ∧ (0 ≤ x2.toInt) ∧ (∀ b1, R0 a0 2 = some b1 → x2.toInt < (I0 b1 0).toInt) ∧ (∀ al nw, R0 a0 2 = some al → R0 a0 6 = some nw → v.toInt = if x3.toInt = 1 then skS gX (-1) ((I0 al 3).toInt.toNat + (I0 nw 2).toInt.toNat) (I0 al 1).toInt x1.toInt x2.toInt else skL gX (-1) ((I0 al 3).toInt.toNat + (I0 nw 2).toInt.toNat) (I0 al 1).toInt x1.toInt x2.toInt) ∧ True)
set_option maxHeartbeats 4000000 in
theorem fk_X10_light {l : Launch} {T : Nat → Nat} {cn : Nat} {K N : Nat → Nat} {I0 : cz_I} {R0 : cz_R} {L0 : cz_L} {d : Int} (hW0 : Wf T cn K N I0 R0 d) (gX : Nat → Nat → Int) {a0 : Nat} (ta0 : T a0 = 1) {x1 : Int32} {x2 : Int32} {x3 : Int32} (hx3 : 0 ≤ x3.toInt ∧ x3.toInt ≤ 1) (hX : EvQ I0 R0 a0 gX) (hK : SkQ I0 R0 a0 gX) (hD : DjS R0 a0) : ConE l mX10_light [.ref a0, .int x1, .int x2, .int x3] cn K N I0 R0 L0 (ca_i (fun v cn' K' N' I' R' L' => cn = cn' ∧ K = K' ∧ N = N' ∧ R0 = R' ∧ L0 = L' ∧ St T cn K N d wik_X10_light wrk_X10_light I0 R0 I' R0 ∧ (SkQ I' R0 a0 gX) ∧ Cs_X10_light T I0 R0 a0 gX x1 x2 x3 v I' R0 ∧ True)) := by
  refine ConE.of (by decide +kernel) rfl (Nat.le_of_ble_eq_true rfl) rfl (fun X hX hZ hE => ?_)
  subst hX
  have hS0 : St T cn K N d wik_X10_light wrk_X10_light I0 R0 I0 R0 := St.rf0 hW0
  obtain ⟨a1, d2, ta1⟩ := rf1_2 hW0 ta0
  obtain ⟨v3, c4⟩ : ∃ v, I0 a1 1 = v := ⟨_, rfl⟩
  have b5 := iv2_1 hW0 ta1 c4
  obtain ⟨v6, c7⟩ : ∃ v, I0 a1 0 = v := ⟨_, rfl⟩
  have b8 := iv2_0 hW0 ta1 c7
  obtain ⟨a9, d10, ta9⟩ := rf1_6 hW0 ta0
  obtain ⟨a11, d12, ta11⟩ := rf1_8 hW0 ta0
  obtain ⟨a13, d14, ta13⟩ := rf1_13 hW0 ta0
  obtain ⟨v15, c16⟩ : ∃ v, I0 a1 3 = v := ⟨_, rfl⟩
  have b17 := iv2_3 hW0 ta1 c16
  refine tr_aload_n dX10_light_0 rfl ?_
  refine tr_iload_n dX10_light_1 rfl ?_
  refine q_callVi hE (M' := mX10_isHut) (as := [_]) dX10_light_2 lk10_126 inX10_isHut seX10_isHut myX10_isHut (by decide) ⟨by decide, by decide⟩ rfl (kR1 hS0.1 ta0) (Nat.le_of_ble_eq_true rfl) rfl rfl (by decide) (by decide) (fk_X10_isHut hS0.1  ta0) ?_
  rintro v23 cn' K' N' I18 R19 L20 ⟨rfl, rfl, rfl, rfl, rfl, rfl, h24, p25, p26, -⟩
  have p27 := p25 _ d2
  clear p25
  rw [c4] at p27
  have p28 := p26 _ d2
  clear p26
  rw [c4] at p28
  refine q_if_ne 14 dX10_light_5 (by decide) (fun h29 => ?_) (fun h29 => ?_)
  · skip
    refine tr_aload_n dX10_light_14 rfl ?_
    refine tr_iload_n dX10_light_15 rfl ?_
    refine q_callVi hE (M' := mX10_isMinute) (as := [_]) dX10_light_16 lk10_115 inX10_isMinute seX10_isMinute myX10_isMinute (by decide) ⟨by decide, by decide⟩ rfl (kR1 hS0.1 ta0) (Nat.le_of_ble_eq_true rfl) rfl rfl (by decide) (by decide) (fk_X10_isMinute hS0.1  ta0) ?_
    rintro v35 cn' K' N' I30 R31 L32 ⟨rfl, rfl, rfl, rfl, rfl, rfl, h36, p37, p38, -⟩
    have p39 := p37 _ d2
    clear p37
    rw [c7] at p39
    have p40 := p38 _ d2
    clear p38
    rw [c7] at p40
    refine q_if_ne 28 dX10_light_19 (by decide) (fun h41 => ?_) (fun h41 => ?_)
    · skip
      refine tr_aload_n dX10_light_28 rfl ?_
      refine q_callVr hE (M' := mX10_presentSky) (as := []) dX10_light_29 lk10_119 inX10_presentSky seX10_presentSky myX10_presentSky (by decide) ⟨by decide, by decide⟩ rfl (kR1 hS0.1 ta0) (Nat.le_of_ble_eq_true rfl) rfl rfl (by decide) (by decide) (fk_X10_presentSky hS0.1 (gX) ta0 hX hK hD) ?_
      rintro a47 cn' K' N' I42 R43 L44 ⟨rfl, rfl, rfl, rfl, rfl, g45, ta47, p48, rp49, rp50, rp51, -⟩
      have hS52 := hS0.tr g45 (by decide +kernel) (by decide +kernel)
      obtain ⟨v53, c54⟩ : ∃ v, I42 a0 9 = v := ⟨_, rfl⟩
      have b55 := iv1_9 hS52.1 ta0 c54
      rw [c54] at p48
      have hz56 := rp51 _ _ _ rp49 d2 d10
      refine tr_astore dX10_light_32 (by decide) (by decide) ?_
      refine tr_iload_n dX10_light_34 rfl ?_
      refine q_if_eq 46 dX10_light_35 (by decide) (fun h57 => ?_) (fun h57 => ?_)
      · skip
        refine tr_aload dX10_light_46 rfl ?_
        obtain ⟨a58, d59, ta58⟩ := rf12_6 hW0 ta47
        refine tr_getR dX10_light_48 fl10_133 (kR12 hS52.1 ta47) d59 ?_
        refine tr_astore dX10_light_51 (by decide) (by decide) ?_
        refine tr_aload_n dX10_light_53 rfl ?_
        refine tr_aload dX10_light_54 rfl ?_
        refine tr_iload_n dX10_light_56 rfl ?_
        refine q_iald dX10_light_57 (kR39 hS52.1 ta58) (ti_in (nR39 hS52.1 ta58) (by omega) (by omega)) ?_
        intro v60 c61
        have hb62 := hz56.2.2.2.2.1 _ d59 x2.toInt.toNat (by rw [c7]; omega)
        rw [show I42 a58 x2.toInt.toNat = v60 from c61] at hb62
        have hb62r := And.intro hb62.1 hb62.2.1
        refine tr_iload_n dX10_light_58 rfl ?_
        refine q_callSi hE (M' := mX10_bit) (as := [_, _]) dX10_light_59 lk10_136 inX10_bit myX10_bit ⟨by decide, by decide⟩ rfl (Nat.le_of_ble_eq_true rfl) rfl rfl (by decide) (by decide) (f_X10_bitW   (by omega) (by omega)) ?_
        rintro v68 cn' K' N' I63 R64 L65 ⟨rfl, rfl, rfl, rfl, rfl, rfl, p69, -⟩
        have btv68 := bt_01 v60.toInt x1.toInt
        refine q_callVi hE (M' := mX10_answered) (as := [_]) dX10_light_62 lk10_109 inX10_answered seX10_answered myX10_answered (by decide) ⟨by decide, by decide⟩ rfl (kR1 hS52.1 ta0) (Nat.le_of_ble_eq_true rfl) rfl rfl (by decide) (by decide) (fk_X10_answered hS52.1  ta0) ?_
        rintro v75 cn' K' N' I70 R71 L72 ⟨rfl, rfl, rfl, rfl, rfl, g73, p76, p77, -⟩
        have hS78 := hS52.tr g73 (by decide +kernel) (by decide +kernel)
        have c79 : I70 a0 9 = v53 := (g73.cell ta0 (by decide +kernel)).trans c54
        obtain ⟨v80, c81⟩ : ∃ v, I70 a0 17 = v := ⟨_, rfl⟩
        rw [c81] at p77
        exact tr_iret hZ dX10_light_65 rfl (by decide) (by decide) ⟨v75, rfl, rfl, rfl, rfl, rfl, rfl, hS78, (SkQ.st (SkQ.of rp50) hW0 ta0 g73 (by decide +kernel) (by decide +kernel)), (Or.inr (Or.inr (⟨(by first | done | with_reducible assumption | omega), (fun q0 z0 => by obtain rfl := Option.some.inj ((d2).symm.trans z0); (try rw [c4]); first | done | with_reducible assumption | omega), (by first | done | with_reducible assumption | omega), (fun q0 z0 => by obtain rfl := Option.some.inj ((d2).symm.trans z0); (try rw [c7]); first | done | with_reducible assumption | omega), (fun al nw h2 h6 => by obtain rfl := Option.some.inj (d2.symm.trans h2); obtain rfl := Option.some.inj (d10.symm.trans h6); have e : bt _ _ = skL _ _ _ _ _ _ := hb62.2.2 x1.toInt.toNat (by omega); rw [show ((x1.toInt.toNat : Nat) : Int) = x1.toInt by omega] at e; rw [if_neg (by omega)]; rw [show ((x2.toInt.toNat : Nat) : Int) = x2.toInt by omega] at e; omega), trivial⟩))), trivial⟩
      · skip
        refine tr_aload dX10_light_38 rfl ?_
        obtain ⟨a82, d83, ta82⟩ := rf12_7 hW0 ta47
        refine tr_getR dX10_light_40 fl10_129 (kR12 hS52.1 ta47) d83 ?_
        refine tr_goto 51 dX10_light_43 (by decide) ?_
        refine tr_astore dX10_light_51 (by decide) (by decide) ?_
        refine tr_aload_n dX10_light_53 rfl ?_
        refine tr_aload dX10_light_54 rfl ?_
        refine tr_iload_n dX10_light_56 rfl ?_
        refine q_iald dX10_light_57 (kR40 hS52.1 ta82) (ti_in (nR40 hS52.1 ta82) (by omega) (by omega)) ?_
        intro v84 c85
        have hb86 := hz56.2.2.2.2.2.1 _ d83 x2.toInt.toNat (by rw [c7]; omega)
        rw [show I42 a82 x2.toInt.toNat = v84 from c85] at hb86
        have hb86r := And.intro hb86.1 hb86.2.1
        refine tr_iload_n dX10_light_58 rfl ?_
        refine q_callSi hE (M' := mX10_bit) (as := [_, _]) dX10_light_59 lk10_136 inX10_bit myX10_bit ⟨by decide, by decide⟩ rfl (Nat.le_of_ble_eq_true rfl) rfl rfl (by decide) (by decide) (f_X10_bitW   (by omega) (by omega)) ?_
        rintro v92 cn' K' N' I87 R88 L89 ⟨rfl, rfl, rfl, rfl, rfl, rfl, p93, -⟩
        have btv92 := bt_01 v84.toInt x1.toInt
        refine q_callVi hE (M' := mX10_answered) (as := [_]) dX10_light_62 lk10_109 inX10_answered seX10_answered myX10_answered (by decide) ⟨by decide, by decide⟩ rfl (kR1 hS52.1 ta0) (Nat.le_of_ble_eq_true rfl) rfl rfl (by decide) (by decide) (fk_X10_answered hS52.1  ta0) ?_
        rintro v99 cn' K' N' I94 R95 L96 ⟨rfl, rfl, rfl, rfl, rfl, g97, p100, p101, -⟩
        have hS102 := hS52.tr g97 (by decide +kernel) (by decide +kernel)
        have c103 : I94 a0 9 = v53 := (g97.cell ta0 (by decide +kernel)).trans c54
        obtain ⟨v104, c105⟩ : ∃ v, I94 a0 17 = v := ⟨_, rfl⟩
        rw [c105] at p101
        exact tr_iret hZ dX10_light_65 rfl (by decide) (by decide) ⟨v99, rfl, rfl, rfl, rfl, rfl, rfl, hS102, (SkQ.st (SkQ.of rp50) hW0 ta0 g97 (by decide +kernel) (by decide +kernel)), (Or.inr (Or.inr (⟨(by first | done | with_reducible assumption | omega), (fun q0 z0 => by obtain rfl := Option.some.inj ((d2).symm.trans z0); (try rw [c4]); first | done | with_reducible assumption | omega), (by first | done | with_reducible assumption | omega), (fun q0 z0 => by obtain rfl := Option.some.inj ((d2).symm.trans z0); (try rw [c7]); first | done | with_reducible assumption | omega), (fun al nw h2 h6 => by obtain rfl := Option.some.inj (d2.symm.trans h2); obtain rfl := Option.some.inj (d10.symm.trans h6); have e : bt _ _ = (if _ then _ else _) := hb86.2.2 x1.toInt.toNat (by omega); rw [show ((x1.toInt.toNat : Nat) : Int) = x1.toInt by omega] at e; rw [if_pos (show ((x2.toInt.toNat : Nat) : Int) < _ by rw [c7]; omega)] at e; rw [if_pos (by omega)]; rw [show ((x2.toInt.toNat : Nat) : Int) = x2.toInt by omega] at e; omega), trivial⟩))), trivial⟩
    · skip
      refine tr_aload_n dX10_light_22 rfl ?_
      refine q_iconst dX10_light_23 (by decide) ?_
      intro v106 h107
      refine q_callVi hE (M' := mX10_refused) (as := [_]) dX10_light_24 lk10_79 inX10_refused seX10_refused myX10_refused (by decide) ⟨by decide, by decide⟩ rfl (kR1 hS0.1 ta0) (Nat.le_of_ble_eq_true rfl) rfl rfl (by decide) (by decide) (fk_X10_refused hS0.1  ta0) ?_
      rintro v113 cn' K' N' I108 R109 L110 ⟨rfl, rfl, rfl, rfl, rfl, g111, p114, p115, -⟩
      have hS116 := hS0.tr g111 (by decide +kernel) (by decide +kernel)
      obtain ⟨v117, c118⟩ : ∃ v, I108 a0 17 = v := ⟨_, rfl⟩
      rw [c118] at p115
      exact tr_iret hZ dX10_light_27 rfl (by decide) (by decide) ⟨v113, rfl, rfl, rfl, rfl, rfl, rfl, hS116, (SkQ.st hK hW0 ta0 g111 (by decide +kernel) (by decide +kernel)), (by first | exact Or.inl ⟨(fun q0 z0 => by obtain rfl := Option.some.inj ((d2).symm.trans z0); (try rw [c4]); first | done | with_reducible assumption | omega), (by first | done | with_reducible assumption | omega), trivial⟩ | exact Or.inr (Or.inl ⟨(by first | done | with_reducible assumption | omega), (fun q0 z0 => by obtain rfl := Option.some.inj ((d2).symm.trans z0); (try rw [c4]); first | done | with_reducible assumption | omega), (fun q0 z0 => by obtain rfl := Option.some.inj ((d2).symm.trans z0); (try rw [c7]); first | done | with_reducible assumption | omega), (by first | done | with_reducible assumption | omega), trivial⟩) | exact Or.inr (Or.inr (⟨(by first | done | with_reducible assumption | omega), (fun q0 z0 => by obtain rfl := Option.some.inj ((d2).symm.trans z0); (try rw [c4]); first | done | with_reducible assumption | omega), (by first | done | with_reducible assumption | omega), (fun q0 z0 => by obtain rfl := Option.some.inj ((d2).symm.trans z0); (try rw [c7]); first | done | with_reducible assumption | omega), (by exfalso; omega), trivial⟩))), trivial⟩
  · skip
    refine tr_aload_n dX10_light_8 rfl ?_
    refine q_iconst dX10_light_9 (by decide) ?_
    intro v119 h120
    refine q_callVi hE (M' := mX10_refused) (as := [_]) dX10_light_10 lk10_79 inX10_refused seX10_refused myX10_refused (by decide) ⟨by decide, by decide⟩ rfl (kR1 hS0.1 ta0) (Nat.le_of_ble_eq_true rfl) rfl rfl (by decide) (by decide) (fk_X10_refused hS0.1  ta0) ?_
    rintro v126 cn' K' N' I121 R122 L123 ⟨rfl, rfl, rfl, rfl, rfl, g124, p127, p128, -⟩
    have hS129 := hS0.tr g124 (by decide +kernel) (by decide +kernel)
    obtain ⟨v130, c131⟩ : ∃ v, I121 a0 17 = v := ⟨_, rfl⟩
    rw [c131] at p128
    exact tr_iret hZ dX10_light_13 rfl (by decide) (by decide) ⟨v126, rfl, rfl, rfl, rfl, rfl, rfl, hS129, (SkQ.st hK hW0 ta0 g124 (by decide +kernel) (by decide +kernel)), (by first | exact Or.inl ⟨(fun q0 z0 => by obtain rfl := Option.some.inj ((d2).symm.trans z0); (try rw [c4]); first | done | with_reducible assumption | omega), (by first | done | with_reducible assumption | omega), trivial⟩ | exact Or.inr (Or.inl ⟨(by first | done | with_reducible assumption | omega), (fun q0 z0 => by obtain rfl := Option.some.inj ((d2).symm.trans z0); (try rw [c4]); first | done | with_reducible assumption | omega), (fun q0 z0 => by obtain rfl := Option.some.inj ((d2).symm.trans z0); (try rw [c7]); first | done | with_reducible assumption | omega), (by first | done | with_reducible assumption | omega), trivial⟩) | exact Or.inr (Or.inr (⟨(by first | done | with_reducible assumption | omega), (fun q0 z0 => by obtain rfl := Option.some.inj ((d2).symm.trans z0); (try rw [c4]); first | done | with_reducible assumption | omega), (by first | done | with_reducible assumption | omega), (fun q0 z0 => by obtain rfl := Option.some.inj ((d2).symm.trans z0); (try rw [c7]); first | done | with_reducible assumption | omega), (by exfalso; omega), trivial⟩))), trivial⟩
def wik_X10_changes : List Nat := [73, 81, 768, 769, 778, 2303, 2367, 2431, 2495, 2559, 2623, 2687, 2751, 2815]
def wrk_X10_changes : List Nat := []
def Cs_X10_changes (T : Nat → Nat) (I0 : cz_I) (R0 : cz_R) (a0 : Nat) (gX : Nat → Nat → Int) (x1 : Int32) (x2 : Int32) (v : Int32) (I' : cz_I) (R' : cz_R) : Prop :=
  ((∀ b1, R0 a0 2 = some b1 → (x1.toInt < 0 ∨ x1.toInt ≥ (I0 b1 1).toInt)) ∧ (v.toInt = -1) ∧ True) ∨
  ((0 ≤ x1.toInt) ∧ (∀ b1, R0 a0 2 = some b1 → x1.toInt < (I0 b1 1).toInt) ∧ (∀ al nw, R0 a0 2 = some al → R0 a0 6 = some nw → v.toInt = if x2.toInt = 1 then cnM (fun k => skT gX (-1) ((I0 al 3).toInt.toNat + (I0 nw 2).toInt.toNat) (I0 al 1).toInt x1.toInt (k : Int)) (I0 al 0).toInt.toNat else cnM (fun k => skC gX (-1) ((I0 al 3).toInt.toNat + (I0 nw 2).toInt.toNat) (I0 al 1).toInt x1.toInt (k : Int)) (I0 al 0).toInt.toNat) ∧ True)
