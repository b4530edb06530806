set_option maxHeartbeats 4000000 in
theorem fk_X7_turnerKind {l : Launch} {T : Nat → Nat} {cn : Nat} {K N : Nat → Nat} {I0 : cz_I} {R0 : cz_R} {L0 : cz_L} {d : Int} (hW0 : Wf T cn K N I0 R0 d) (gB : cz_B) (gs : Int) {a0 : Nat} (ta0 : T a0 = 7) (pre0 : (I0 a0 3).toInt = (tkK gB gs)) (pre1 : (AtW ((tkK gB gs)) ((L0 a0 5).toInt) ((tkW gB gs)))) : ConE l mX7_turnerKind [.ref a0] cn K N I0 R0 L0 (ca_i (fun v cn' K' N' I' R' L' => cn = cn' ∧ K = K' ∧ N = N' ∧ I0 = I' ∧ R0 = R' ∧ L0 = L' ∧ ((-1) ≤ v.toInt ∧ v.toInt ≤ 3) ∧ (v.toInt = (tkd gB gs)) ∧ True)) := by
  refine ConE.of (by decide +kernel) rfl (Nat.le_of_ble_eq_true rfl) rfl (fun X hX hZ hE => ?_)
  subst hX
  obtain ⟨v1, c2⟩ : ∃ v, I0 a0 3 = v := ⟨_, rfl⟩
  have b3 := iv7_3 hW0 ta0 c2
  have p4 := pre0
  rw [c2] at p4
  obtain ⟨y5, c6⟩ : ∃ v, L0 a0 5 = v := ⟨_, rfl⟩
  have p7 := pre1
  rw [c6] at p7
  refine tr_aload_n dX7_turnerKind_0 rfl ?_
  refine tr_ldcwS dX7_turnerKind_1 ld7_268 ?_
  refine q_callVi hE (M' := mX7_seesWord) (as := [_]) dX7_turnerKind_4 lk7_101 inX7_seesWord seX7_seesWord myX7_seesWord (by decide) ⟨by decide, by decide⟩ rfl (kR7 hW0 ta0) (Nat.le_of_ble_eq_true rfl) rfl rfl (by decide) (by decide) (fk_X7_seesWord hW0 (gB) (gs) ta0 (by decide) (by (try rw [c2]); first | done | with_reducible assumption | omega) (by (try rw [c6]); first | done | assumption)) ?_
  rintro v13 cn' K' N' I8 R9 L10 ⟨rfl, rfl, rfl, rfl, rfl, rfl, h14, dj15, -⟩
  (try rw [pk_21] at dj15)
  rcases dj15 with ⟨p16, p17, p18, -⟩ | ⟨p19, p20, -⟩
  · skip
    refine q_if_eq 12 dX7_turnerKind_7 (by decide) (fun h21 => ?_) (fun h21 => ?_)
    · skip
      exfalso; exact om_3624102b p16 h21
    · skip
      refine q_iconst dX7_turnerKind_10 (by decide) ?_
      intro v22 h23
      exact tr_iret hZ dX7_turnerKind_11 rfl (by decide) (by decide) ⟨v22, rfl, rfl, rfl, rfl, rfl, rfl, rfl, (by exact om_12ecd01e h23), (by first | done | with_reducible assumption | fail | (exact om_f96b51e6 p4 p17 p18 h23)), trivial⟩
  · skip
    refine q_if_eq 12 dX7_turnerKind_7 (by decide) (fun h24 => ?_) (fun h24 => ?_)
    · skip
      refine tr_aload_n dX7_turnerKind_12 rfl ?_
      refine tr_ldcwS dX7_turnerKind_13 ld7_270 ?_
      refine q_callVi hE (M' := mX7_seesWord) (as := [_]) dX7_turnerKind_16 lk7_101 inX7_seesWord seX7_seesWord myX7_seesWord (by decide) ⟨by decide, by decide⟩ rfl (kR7 hW0 ta0) (Nat.le_of_ble_eq_true rfl) rfl rfl (by decide) (by decide) (fk_X7_seesWord hW0 (gB) (gs) ta0 (by decide) (by (try rw [c2]); first | done | with_reducible assumption | omega) (by (try rw [c6]); first | done | assumption)) ?_
      rintro v30 cn' K' N' I25 R26 L27 ⟨rfl, rfl, rfl, rfl, rfl, rfl, h31, dj32, -⟩
      (try rw [pk_3] at dj32)
      rcases dj32 with ⟨p33, p34, p35, -⟩ | ⟨p36, p37, -⟩
      · skip
        refine q_if_eq 24 dX7_turnerKind_19 (by decide) (fun h38 => ?_) (fun h38 => ?_)
        · skip
          exfalso; exact om_3624102b p33 h38
        · skip
          refine q_iconst dX7_turnerKind_22 (by decide) ?_
          intro v39 h40
          exact tr_iret hZ dX7_turnerKind_23 rfl (by decide) (by decide) ⟨v39, rfl, rfl, rfl, rfl, rfl, rfl, rfl, (by exact om_343991ee h40), (by first | done | with_reducible assumption | fail | (exact om_5874b79b p4 p34 p35 h40)), trivial⟩
      · skip
        refine q_if_eq 24 dX7_turnerKind_19 (by decide) (fun h41 => ?_) (fun h41 => ?_)
        · skip
          refine tr_aload_n dX7_turnerKind_24 rfl ?_
          refine tr_ldcwS dX7_turnerKind_25 ld7_272 ?_
          refine q_callVi hE (M' := mX7_seesWord) (as := [_]) dX7_turnerKind_28 lk7_101 inX7_seesWord seX7_seesWord myX7_seesWord (by decide) ⟨by decide, by decide⟩ rfl (kR7 hW0 ta0) (Nat.le_of_ble_eq_true rfl) rfl rfl (by decide) (by decide) (fk_X7_seesWord hW0 (gB) (gs) ta0 (by decide) (by (try rw [c2]); first | done | with_reducible assumption | omega) (by (try rw [c6]); first | done | assumption)) ?_
          rintro v47 cn' K' N' I42 R43 L44 ⟨rfl, rfl, rfl, rfl, rfl, rfl, h48, dj49, -⟩
          (try rw [pk_9] at dj49)
          rcases dj49 with ⟨p50, p51, p52, -⟩ | ⟨p53, p54, -⟩
          · skip
            refine q_if_eq 36 dX7_turnerKind_31 (by decide) (fun h55 => ?_) (fun h55 => ?_)
            · skip
              exfalso; exact om_3624102b p50 h55
            · skip
              refine q_iconst dX7_turnerKind_34 (by decide) ?_
              intro v56 h57
              exact tr_iret hZ dX7_turnerKind_35 rfl (by decide) (by decide) ⟨v56, rfl, rfl, rfl, rfl, rfl, rfl, rfl, (by exact om_aa0738c1 h57), (by first | done | with_reducible assumption | fail | (exact om_5564605e p4 p51 p52 h57)), trivial⟩
          · skip
            refine q_if_eq 36 dX7_turnerKind_31 (by decide) (fun h58 => ?_) (fun h58 => ?_)
            · skip
              refine tr_aload_n dX7_turnerKind_36 rfl ?_
              refine tr_ldcS dX7_turnerKind_37 ld7_143 ?_
              refine q_callVi hE (M' := mX7_seesWord) (as := [_]) dX7_turnerKind_39 lk7_101 inX7_seesWord seX7_seesWord myX7_seesWord (by decide) ⟨by decide, by decide⟩ rfl (kR7 hW0 ta0) (Nat.le_of_ble_eq_true rfl) rfl rfl (by decide) (by decide) (fk_X7_seesWord hW0 (gB) (gs) ta0 (by decide) (by (try rw [c2]); first | done | with_reducible assumption | omega) (by (try rw [c6]); first | done | assumption)) ?_
              rintro v64 cn' K' N' I59 R60 L61 ⟨rfl, rfl, rfl, rfl, rfl, rfl, h65, dj66, -⟩
              (try rw [pk_0] at dj66)
              rcases dj66 with ⟨p67, p68, p69, -⟩ | ⟨p70, p71, -⟩
              · skip
                refine q_if_eq 49 dX7_turnerKind_42 (by decide) (fun h72 => ?_) (fun h72 => ?_)
                · skip
                  exfalso; exact om_3624102b p67 h72
                · skip
                  refine q_iconst dX7_turnerKind_45 (by decide) ?_
                  intro v73 h74
                  refine tr_goto 50 dX7_turnerKind_46 (by decide) ?_
                  exact tr_iret hZ dX7_turnerKind_50 rfl (by decide) (by decide) ⟨v73, rfl, rfl, rfl, rfl, rfl, rfl, rfl, (by exact om_57cdb32a h74), (by first | done | with_reducible assumption | fail | (exact om_db12003d p4 p68 p69 h74)), trivial⟩
              · skip
                refine q_if_eq 49 dX7_turnerKind_42 (by decide) (fun h75 => ?_) (fun h75 => ?_)
                · skip
                  refine q_iconst dX7_turnerKind_49 (by decide) ?_
                  intro v76 h77
                  exact tr_iret hZ dX7_turnerKind_50 rfl (by decide) (by decide) ⟨v76, rfl, rfl, rfl, rfl, rfl, rfl, rfl, (by exact om_a58b86fc h77), (by first | done | with_reducible assumption | fail | (exact om_dc11ffa0 p4 p20 p37 p54 p71 h77)), trivial⟩
                · skip
                  exfalso; exact om_3a97d4a5 p70 h75
            · skip
              exfalso; exact om_3a97d4a5 p53 h58
        · skip
          exfalso; exact om_3a97d4a5 p36 h41
    · skip
      exfalso; exact om_3a97d4a5 p19 h24
def wik_X7_readAlp : List Nat := [128, 129, 450, 451, 452, 454, 455, 459, 463, 464, 1215]
def wrk_X7_readAlp : List Nat := []
def wlk_X7_readAlp : List Nat := [453]
set_option maxHeartbeats 4000000 in
theorem fk_X7_readAlp {l : Launch} {T : Nat → Nat} {cn : Nat} {K N : Nat → Nat} {I0 : cz_I} {R0 : cz_R} {L0 : cz_L} {d : Int} (hW0 : Wf T cn K N I0 R0 d) (gB : cz_B) (gs : Int) (gQ : Nat → Int) {a0 : Nat} (ta0 : T a0 = 7) (hT : ∀ t, R0 a0 0 = some t → Tx I0 t gB) (pre0 : (I0 a0 2).toInt = (tkN gB gs)) (pre1 : (I0 a0 4).toInt = (tkS gB gs)) (pre2 : (I0 a0 3).toInt = (tkK gB gs)) (pre3 : (AtW ((tkK gB gs)) ((L0 a0 5).toInt) ((tkW gB gs)))) (pre4 : (AtV ((tkK gB gs)) ((I0 a0 6).toInt) ((tkV gB gs)))) (pre5 : (I0 a0 1).toInt = (gB.2)) : ConE l mX7_readAlp [.ref a0] cn K N I0 R0 L0 (ca_i (fun v cn' K' N' I' R' L' => cn = cn' ∧ K = K' ∧ N = N' ∧ R0 = R' ∧ St T cn K N d wik_X7_readAlp wrk_X7_readAlp I0 R0 I' R0 ∧ LgS T wlk_X7_readAlp L0 L' ∧ (0 ≤ v.toInt ∧ v.toInt ≤ 1) ∧ (∀ dr, R0 a0 10 = some dr → FrO 2 dr T I0 I') ∧ (((v.toInt = 1) ∧ ((I' a0 15).toInt = (I0 a0 15).toInt) ∧ ((alF gB gQ gs) = 0) ∧ (∀ b1, R0 a0 10 = some b1 → (I' b1 0).toInt = (tkV gB (tkN gB gs))) ∧ (∀ b1, R0 a0 10 = some b1 → (I' b1 1).toInt = (tkV gB (tkN gB (tkN gB (tkN gB gs))))) ∧ ((I' a0 11).toInt = 1) ∧ ((I' a0 2).toInt = (tkN gB (tkN gB (tkN gB (tkN gB (tkN gB (tkN gB (tkN gB (tkN gB (tkN gB (tkN gB (tkN gB (tkN gB (tkN gB (tkN gB (tkN gB gs)))))))))))))))) ∧ ((I' a0 4).toInt = (tkS gB (tkN gB (tkN gB (tkN gB (tkN gB (tkN gB (tkN gB (tkN gB (tkN gB (tkN gB (tkN gB (tkN gB (tkN gB (tkN gB (tkN gB gs)))))))))))))))) ∧ ((I' a0 3).toInt = (tkK gB (tkN gB (tkN gB (tkN gB (tkN gB (tkN gB (tkN gB (tkN gB (tkN gB (tkN gB (tkN gB (tkN gB (tkN gB (tkN gB (tkN gB gs)))))))))))))))) ∧ ((AtW ((tkK gB (tkN gB (tkN gB (tkN gB (tkN gB (tkN gB (tkN gB (tkN gB (tkN gB (tkN gB (tkN gB (tkN gB (tkN gB (tkN gB (tkN gB gs)))))))))))))))) ((L' a0 5).toInt) ((tkW gB (tkN gB (tkN gB (tkN gB (tkN gB (tkN gB (tkN gB (tkN gB (tkN gB (tkN gB (tkN gB (tkN gB (tkN gB (tkN gB (tkN gB gs)))))))))))))))))) ∧ ((AtV ((tkK gB (tkN gB (tkN gB (tkN gB (tkN gB (tkN gB (tkN gB (tkN gB (tkN gB (tkN gB (tkN gB (tkN gB (tkN gB (tkN gB (tkN gB gs)))))))))))))))) ((I' a0 6).toInt) ((tkV gB (tkN gB (tkN gB (tkN gB (tkN gB (tkN gB (tkN gB (tkN gB (tkN gB (tkN gB (tkN gB (tkN gB (tkN gB (tkN gB (tkN gB gs)))))))))))))))))) ∧ True) ∨ ((v.toInt = 0) ∧ ((alF gB gQ gs) ≠ 0) ∧ ((I' a0 15).toInt = (alF gB gQ gs)) ∧ ((I' a0 16).toInt = (alP gB gQ gs)) ∧ True)) ∧ True)) := by
  refine ConE.of (by decide +kernel) rfl (Nat.le_of_ble_eq_true rfl) rfl (fun X hX hZ hE => ?_)
  subst hX
  have hS0 : St T cn K N d wik_X7_readAlp wrk_X7_readAlp I0 R0 I0 R0 := St.rf0 hW0
  have hL0 : LgS T wlk_X7_readAlp L0 L0 := LgS.rf0
  obtain ⟨v1, c2⟩ : ∃ v, I0 a0 2 = v := ⟨_, rfl⟩
  have b3 := iv7_2 hS0.1 ta0 c2
  have p4 := pre0
  rw [c2] at p4
  obtain ⟨v5, c6⟩ : ∃ v, I0 a0 4 = v := ⟨_, rfl⟩
  have b7 := iv7_4 hS0.1 ta0 c6
  have p8 := pre1
  rw [c6] at p8
  obtain ⟨v9, c10⟩ : ∃ v, I0 a0 3 = v := ⟨_, rfl⟩
  have b11 := iv7_3 hS0.1 ta0 c10
  have p12 := pre2
  rw [c10] at p12
  obtain ⟨y13, c14⟩ : ∃ v, L0 a0 5 = v := ⟨_, rfl⟩
  have p15 := pre3
  rw [c14] at p15
  obtain ⟨v16, c17⟩ : ∃ v, I0 a0 6 = v := ⟨_, rfl⟩
  have p18 := pre4
  rw [c17] at p18
  obtain ⟨v19, c20⟩ : ∃ v, I0 a0 1 = v := ⟨_, rfl⟩
  have b21 := iv7_1 hW0 ta0 c20
  have p22 := pre5
  rw [c20] at p22
  obtain ⟨v23, c24⟩ : ∃ v, I0 a0 15 = v := ⟨_, rfl⟩
  obtain ⟨a25, d26, ta25⟩ := rf7_10 hW0 ta0
  have hO0 : FrO 2 a25 T I0 I0 := FrO.rf
  have hF := alF_ch gB gQ gs
  have hP := alP_ch gB gQ gs
  refine tr_aload_n dX7_readAlp_0 rfl ?_
  refine q_iconst dX7_readAlp_1 (by decide) ?_
  intro v27 h28
  refine q_putZ dX7_readAlp_2 fl7_31 (kR7 hS0.1 ta0) (Or.inl rfl) hS0 ta0 (by exact om_d753bc65 h28) (by show (0 : Int) ≤ v27.toInt ∧ v27.toInt ≤ (1 : Int); exact om_d753bc65 h28) rfl (by decide +kernel) ?_
  intro I29 hS30 e31 f32
  have c33 : I29 a0 2 = v1 := (f32 _ _ (fun q => absurd q.2 (by decide))).trans c2
  have c34 : I29 a0 4 = v5 := (f32 _ _ (fun q => absurd q.2 (by decide))).trans c6
  have c35 : I29 a0 3 = v9 := (f32 _ _ (fun q => absurd q.2 (by decide))).trans c10
  have c36 : I29 a0 6 = v16 := (f32 _ _ (fun q => absurd q.2 (by decide))).trans c17
  have c37 : I29 a0 15 = v23 := (f32 _ _ (fun q => absurd q.2 (by decide))).trans c24
  have hO38 : FrO 2 a25 T I0 I29 := hO0.put f32 ta0 (Or.inl (by decide))
  refine tr_aload_n dX7_readAlp_5 rfl ?_
  refine tr_ldcS dX7_readAlp_6 ld7_203 ?_
  refine q_callVi hE (M' := mX7_takeWord) (as := [_]) dX7_readAlp_8 lk7_126 inX7_takeWord seX7_takeWord myX7_takeWord (by decide) ⟨by decide, by decide⟩ rfl (kR7 hS30.1 ta0) (Nat.le_of_ble_eq_true rfl) rfl rfl (by decide) (by decide) (fk_X7_takeWord hS30.1 (gB) (gs) ta0 (by decide) (TxA.kp hT hS30 ta0 rfl rfl rfl (by decide +kernel) (by decide +kernel)) (by (try rw [c33]); first | done | with_reducible assumption | omega) (by (try rw [c34]); first | done | with_reducible assumption | omega) (by (try rw [c35]); first | done | with_reducible assumption | omega) (by (try rw [c14]); first | done | assumption) (by (try rw [c36]); first | done | assumption) (by (try rw [((hS30.cell ta0 (by decide +kernel)).trans c20)]); first | done | with_reducible assumption | omega)) ?_
  rintro v44 cn' K' N' I39 R40 L41 ⟨rfl, rfl, rfl, rfl, g42, gl43, h45, dj46, -⟩
  (try rw [pk_18] at dj46)
  have hS47 := hS30.tr g42 (by decide +kernel) (by decide +kernel)
  have c48 : I39 a0 11 = v27 := (g42.cell ta0 (by decide +kernel)).trans e31
  have hO49 : FrO 2 a25 T I0 I39 := hO38.st g42 (by decide +kernel)
  have hL50 := hL0.tr gl43 (by decide +kernel)
  rcases dj46 with ⟨p51, p52, p53, p54, p55, p56, p57, p58, p59, -⟩ | ⟨p60, p61, p62, p63, -⟩
  · skip
    obtain ⟨v64, c65⟩ : ∃ v, I39 a0 15 = v := ⟨_, rfl⟩
    rw [c65] at p52
    rw [c37] at p52
    obtain ⟨v66, c67⟩ : ∃ v, I39 a0 2 = v := ⟨_, rfl⟩
    have b68 := iv7_2 hS47.1 ta0 c67
    rw [c67] at p55
    obtain ⟨v69, c70⟩ : ∃ v, I39 a0 4 = v := ⟨_, rfl⟩
    have b71 := iv7_4 hS47.1 ta0 c70
    rw [c70] at p56
    obtain ⟨v72, c73⟩ : ∃ v, I39 a0 3 = v := ⟨_, rfl⟩
    have b74 := iv7_3 hS47.1 ta0 c73
    rw [c73] at p57
    obtain ⟨y75, c76⟩ : ∃ v, L41 a0 5 = v := ⟨_, rfl⟩
    rw [c76] at p58
    obtain ⟨v77, c78⟩ : ∃ v, I39 a0 6 = v := ⟨_, rfl⟩
    rw [c78] at p59
    replace hF := hF.neg (by exact om_e1d2e2c9 p12 p53 p54)
    replace hP := hP.neg (by exact om_e1d2e2c9 p12 p53 p54)
    refine q_if_eq 26 dX7_readAlp_11 (by decide) (fun h79 => ?_) (fun h79 => ?_)
    · skip
      exfalso; exact om_3624102b p51 h79
    · skip
      refine tr_aload_n dX7_readAlp_14 rfl ?_
      refine q_bipush dX7_readAlp_15 (by decide +kernel) ?_
      intro v80 h81
      refine q_sipush dX7_readAlp_17 (by decide +kernel) ?_
      intro v82 h83
      refine q_callVi hE (M' := mX7_takeWhole) (as := [_, _]) dX7_readAlp_20 lk7_115 inX7_takeWhole seX7_takeWhole myX7_takeWhole (by decide) ⟨by decide, by decide⟩ rfl (kR7 hS47.1 ta0) (Nat.le_of_ble_eq_true rfl) rfl rfl (by decide) (by decide) (fk_X7_takeWhole hS47.1 (gB) ((tkN gB gs)) ta0 (by exact om_cb02bfd0 h81) (by exact om_7c568e13 h83) (TxA.kp hT hS47 ta0 rfl rfl rfl (by decide +kernel) (by decide +kernel)) (by (try rw [c67]); first | done | with_reducible assumption | omega) (by (try rw [c70]); first | done | with_reducible assumption | omega) (by (try rw [c73]); first | done | with_reducible assumption | omega) (by (try rw [c76]); first | done | assumption) (by (try rw [c78]); first | done | assumption) (by (try rw [((hS47.cell ta0 (by decide +kernel)).trans c20)]); first | done | with_reducible assumption | omega)) ?_
      rintro v89 cn' K' N' I84 R85 L86 ⟨rfl, rfl, rfl, rfl, g87, gl88, h90, dj91, -⟩
      have hS92 := hS47.tr g87 (by decide +kernel) (by decide +kernel)
      have c93 : I84 a0 11 = v27 := (g87.cell ta0 (by decide +kernel)).trans c48
      have hO94 : FrO 2 a25 T I0 I84 := hO49.st g87 (by decide +kernel)
      have hL95 := hL50.tr gl88 (by decide +kernel)
      rcases dj91 with ⟨p96, p97, p98, p99, p100, p101, p102, p103, p104, p105, p106, -⟩ | ⟨p107, p108, p109, p110, -⟩ | ⟨p111, p112, p113, p114, p115, -⟩
      · skip
        obtain ⟨v116, c117⟩ : ∃ v, I84 a0 15 = v := ⟨_, rfl⟩
        rw [c117] at p97
        rw [c65] at p97
        obtain ⟨v118, c119⟩ : ∃ v, I84 a0 7 = v := ⟨_, rfl⟩
        have b120 := iv7_7 hS92.1 ta0 c119
        rw [c119] at p101
        obtain ⟨v121, c122⟩ : ∃ v, I84 a0 2 = v := ⟨_, rfl⟩
        have b123 := iv7_2 hS92.1 ta0 c122
        rw [c122] at p102
        obtain ⟨v124, c125⟩ : ∃ v, I84 a0 4 = v := ⟨_, rfl⟩
        have b126 := iv7_4 hS92.1 ta0 c125
        rw [c125] at p103
        obtain ⟨v127, c128⟩ : ∃ v, I84 a0 3 = v := ⟨_, rfl⟩
        have b129 := iv7_3 hS92.1 ta0 c128
        rw [c128] at p104
        obtain ⟨y130, c131⟩ : ∃ v, L86 a0 5 = v := ⟨_, rfl⟩
        rw [c131] at p105
        obtain ⟨v132, c133⟩ : ∃ v, I84 a0 6 = v := ⟨_, rfl⟩
        rw [c133] at p106
        replace hF := hF.neg (by exact om_10ed11b5 p98)
        replace hP := hP.neg (by exact om_10ed11b5 p98)
        replace hF := hF.neg (by exact om_bb680a2e h81 h83 p99 p100 p101)
        replace hP := hP.neg (by exact om_bb680a2e h81 h83 p99 p100 p101)
        refine q_if_ne 28 dX7_readAlp_23 (by decide) (fun h134 => ?_) (fun h134 => ?_)
        · skip
          refine tr_aload_n dX7_readAlp_28 rfl ?_
          refine tr_getR dX7_readAlp_29 fl7_22 (kR7 hS92.1 ta0) d26 ?_
          refine tr_aload_n dX7_readAlp_32 rfl ?_
          refine q_getI dX7_readAlp_33 fl7_109 (kR7 hS92.1 ta0) c119 ?_
          refine q_putI dX7_readAlp_36 fl7_118 (kR2 hS92.1 ta25) (Or.inl rfl) hS92 ta25 (by show (0 : Int) ≤ v118.toInt ∧ v118.toInt ≤ (240 : Int); exact om_d956ef70 b120) rfl (by decide +kernel) ?_
          intro I135 hS136 e137 f138
          have c139 : I135 a0 11 = v27 := (f138 _ _ (fun q => absurd q.2 (by decide))).trans c93
          have c140 : I135 a0 15 = v116 := (f138 _ _ (fun q => absurd q.2 (by decide))).trans c117
          have c141 : I135 a0 7 = v118 := (f138 _ _ (fun q => absurd q.2 (by decide))).trans c119
          have c142 : I135 a0 2 = v121 := (f138 _ _ (fun q => absurd q.2 (by decide))).trans c122
          have c143 : I135 a0 4 = v124 := (f138 _ _ (fun q => absurd q.2 (by decide))).trans c125
          have c144 : I135 a0 3 = v127 := (f138 _ _ (fun q => absurd q.2 (by decide))).trans c128
          have c145 : I135 a0 6 = v132 := (f138 _ _ (fun q => absurd q.2 (by decide))).trans c133
          have hO146 : FrO 2 a25 T I0 I135 := hO94.put f138 ta25 (Or.inr rfl)
          refine tr_aload_n dX7_readAlp_39 rfl ?_
          refine tr_ldcS dX7_readAlp_40 ld7_204 ?_
          refine q_callVi hE (M' := mX7_takeWord) (as := [_]) dX7_readAlp_42 lk7_126 inX7_takeWord seX7_takeWord myX7_takeWord (by decide) ⟨by decide, by decide⟩ rfl (kR7 hS136.1 ta0) (Nat.le_of_ble_eq_true rfl) rfl rfl (by decide) (by decide) (fk_X7_takeWord hS136.1 (gB) ((tkN gB (tkN gB gs))) ta0 (by decide) (TxA.kp hT hS136 ta0 rfl rfl rfl (by decide +kernel) (by decide +kernel)) (by (try rw [c142]); first | done | with_reducible assumption | omega) (by (try rw [c143]); first | done | with_reducible assumption | omega) (by (try rw [c144]); first | done | with_reducible assumption | omega) (by (try rw [c131]); first | done | assumption) (by (try rw [c145]); first | done | assumption) (by (try rw [((hS136.cell ta0 (by decide +kernel)).trans c20)]); first | done | with_reducible assumption | omega)) ?_
          rintro v152 cn' K' N' I147 R148 L149 ⟨rfl, rfl, rfl, rfl, g150, gl151, h153, dj154, -⟩
          (try rw [pk_16] at dj154)
          have hS155 := hS136.tr g150 (by decide +kernel) (by decide +kernel)
          have c156 : I147 a0 11 = v27 := (g150.cell ta0 (by decide +kernel)).trans c139
          have c157 : I147 a0 7 = v118 := (g150.cell ta0 (by decide +kernel)).trans c141
          have c158 : I147 a25 0 = v118 := (g150.cell ta25 (by decide +kernel)).trans e137
          have hO159 : FrO 2 a25 T I0 I147 := hO146.st g150 (by decide +kernel)
          have hL160 := hL95.tr gl151 (by decide +kernel)
          rcases dj154 with ⟨p161, p162, p163, p164, p165, p166, p167, p168, p169, -⟩ | ⟨p170, p171, p172, p173, -⟩
          · skip
            obtain ⟨v174, c175⟩ : ∃ v, I147 a0 15 = v := ⟨_, rfl⟩
            rw [c175] at p162
            rw [c140] at p162
            obtain ⟨v176, c177⟩ : ∃ v, I147 a0 2 = v := ⟨_, rfl⟩
            have b178 := iv7_2 hS155.1 ta0 c177
            rw [c177] at p165
            obtain ⟨v179, c180⟩ : ∃ v, I147 a0 4 = v := ⟨_, rfl⟩
            have b181 := iv7_4 hS155.1 ta0 c180
            rw [c180] at p166
            obtain ⟨v182, c183⟩ : ∃ v, I147 a0 3 = v := ⟨_, rfl⟩
            have b184 := iv7_3 hS155.1 ta0 c183
            rw [c183] at p167
            obtain ⟨y185, c186⟩ : ∃ v, L149 a0 5 = v := ⟨_, rfl⟩
            rw [c186] at p168
            obtain ⟨v187, c188⟩ : ∃ v, I147 a0 6 = v := ⟨_, rfl⟩
            rw [c188] at p169
            replace hF := hF.neg (by exact om_775460f3 p163 p164)
            replace hP := hP.neg (by exact om_775460f3 p163 p164)
            refine q_if_eq 57 dX7_readAlp_45 (by decide) (fun h189 => ?_) (fun h189 => ?_)
            · skip
              exfalso; exact om_3624102b p161 h189
            · skip
              refine tr_aload_n dX7_readAlp_48 rfl ?_
              refine q_iconst dX7_readAlp_49 (by decide) ?_
              intro v190 h191
              refine q_iconst dX7_readAlp_50 (by decide) ?_
              intro v192 h193
              refine q_callVi hE (M' := mX7_takeWhole) (as := [_, _]) dX7_readAlp_51 lk7_115 inX7_takeWhole seX7_takeWhole myX7_takeWhole (by decide) ⟨by decide, by decide⟩ rfl (kR7 hS155.1 ta0) (Nat.le_of_ble_eq_true rfl) rfl rfl (by decide) (by decide) (fk_X7_takeWhole hS155.1 (gB) ((tkN gB (tkN gB (tkN gB gs)))) ta0 (by exact om_07bb78b4 h191) (by exact om_391d6e2b h193) (TxA.kp hT hS155 ta0 rfl rfl rfl (by decide +kernel) (by decide +kernel)) (by (try rw [c177]); first | done | with_reducible assumption | omega) (by (try rw [c180]); first | done | with_reducible assumption | omega) (by (try rw [c183]); first | done | with_reducible assumption | omega) (by (try rw [c186]); first | done | assumption) (by (try rw [c188]); first | done | assumption) (by (try rw [((hS155.cell ta0 (by decide +kernel)).trans c20)]); first | done | with_reducible assumption | omega)) ?_
              rintro v199 cn' K' N' I194 R195 L196 ⟨rfl, rfl, rfl, rfl, g197, gl198, h200, dj201, -⟩
              have hS202 := hS155.tr g197 (by decide +kernel) (by decide +kernel)
              have c203 : I194 a0 11 = v27 := (g197.cell ta0 (by decide +kernel)).trans c156
              have c204 : I194 a25 0 = v118 := (g197.cell ta25 (by decide +kernel)).trans c158
              have hO205 : FrO 2 a25 T I0 I194 := hO159.st g197 (by decide +kernel)
              have hL206 := hL160.tr gl198 (by decide +kernel)
              rcases dj201 with ⟨p207, p208, p209, p210, p211, p212, p213, p214, p215, p216, p217, -⟩ | ⟨p218, p219, p220, p221, -⟩ | ⟨p222, p223, p224, p225, p226, -⟩
              · skip
                obtain ⟨v227, c228⟩ : ∃ v, I194 a0 15 = v := ⟨_, rfl⟩
                rw [c228] at p208
                rw [c175] at p208
                obtain ⟨v229, c230⟩ : ∃ v, I194 a0 7 = v := ⟨_, rfl⟩
                have b231 := iv7_7 hS202.1 ta0 c230
                rw [c230] at p212
                obtain ⟨v232, c233⟩ : ∃ v, I194 a0 2 = v := ⟨_, rfl⟩
                have b234 := iv7_2 hS202.1 ta0 c233
                rw [c233] at p213
                obtain ⟨v235, c236⟩ : ∃ v, I194 a0 4 = v := ⟨_, rfl⟩
                have b237 := iv7_4 hS202.1 ta0 c236
                rw [c236] at p214
                obtain ⟨v238, c239⟩ : ∃ v, I194 a0 3 = v := ⟨_, rfl⟩
                have b240 := iv7_3 hS202.1 ta0 c239
                rw [c239] at p215
                obtain ⟨y241, c242⟩ : ∃ v, L196 a0 5 = v := ⟨_, rfl⟩
                rw [c242] at p216
                obtain ⟨v243, c244⟩ : ∃ v, I194 a0 6 = v := ⟨_, rfl⟩
                rw [c244] at p217
                replace hF := hF.neg (by exact om_10ed11b5 p209)
                replace hP := hP.neg (by exact om_10ed11b5 p209)
                replace hF := hF.neg (by exact om_83db9f4d h191 h193 p210 p211 p212)
                replace hP := hP.neg (by exact om_83db9f4d h191 h193 p210 p211 p212)
                refine q_if_ne 59 dX7_readAlp_54 (by decide) (fun h245 => ?_) (fun h245 => ?_)
                · skip
                  refine tr_aload_n dX7_readAlp_59 rfl ?_
                  refine tr_getR dX7_readAlp_60 fl7_22 (kR7 hS202.1 ta0) d26 ?_
                  refine tr_aload_n dX7_readAlp_63 rfl ?_
                  refine q_getI dX7_readAlp_64 fl7_109 (kR7 hS202.1 ta0) c230 ?_
                  refine q_putI dX7_readAlp_67 fl7_112 (kR2 hS202.1 ta25) (Or.inl rfl) hS202 ta25 (by show (0 : Int) ≤ v229.toInt ∧ v229.toInt ≤ (4 : Int); exact om_db4e6036 h191 h193 p210 p211 p212) rfl (by decide +kernel) ?_
                  intro I246 hS247 e248 f249
                  have c250 : I246 a0 11 = v27 := (f249 _ _ (fun q => absurd q.2 (by decide))).trans c203
                  have c251 : I246 a25 0 = v118 := (f249 _ _ (fun q => absurd q.2 (by decide))).trans c204
                  have c252 : I246 a0 15 = v227 := (f249 _ _ (fun q => absurd q.2 (by decide))).trans c228
                  have c253 : I246 a0 7 = v229 := (f249 _ _ (fun q => absurd q.2 (by decide))).trans c230
                  have c254 : I246 a0 2 = v232 := (f249 _ _ (fun q => absurd q.2 (by decide))).trans c233
                  have c255 : I246 a0 4 = v235 := (f249 _ _ (fun q => absurd q.2 (by decide))).trans c236
                  have c256 : I246 a0 3 = v238 := (f249 _ _ (fun q => absurd q.2 (by decide))).trans c239
                  have c257 : I246 a0 6 = v243 := (f249 _ _ (fun q => absurd q.2 (by decide))).trans c244
                  have hO258 : FrO 2 a25 T I0 I246 := hO205.put f249 ta25 (Or.inr rfl)
                  refine tr_aload_n dX7_readAlp_70 rfl ?_
                  refine tr_ldcS dX7_readAlp_71 ld7_205 ?_
                  refine q_callVi hE (M' := mX7_takeWord) (as := [_]) dX7_readAlp_73 lk7_126 inX7_takeWord seX7_takeWord myX7_takeWord (by decide) ⟨by decide, by decide⟩ rfl (kR7 hS247.1 ta0) (Nat.le_of_ble_eq_true rfl) rfl rfl (by decide) (by decide) (fk_X7_takeWord hS247.1 (gB) ((tkN gB (tkN gB (tkN gB (tkN gB gs))))) ta0 (by decide) (TxA.kp hT hS247 ta0 rfl rfl rfl (by decide +kernel) (by decide +kernel)) (by (try rw [c254]); first | done | with_reducible assumption | omega) (by (try rw [c255]); first | done | with_reducible assumption | omega) (by (try rw [c256]); first | done | with_reducible assumption | omega) (by (try rw [c242]); first | done | assumption) (by (try rw [c257]); first | done | assumption) (by (try rw [((hS247.cell ta0 (by decide +kernel)).trans c20)]); first | done | with_reducible assumption | omega)) ?_
                  rintro v264 cn' K' N' I259 R260 L261 ⟨rfl, rfl, rfl, rfl, g262, gl263, h265, dj266, -⟩
                  (try rw [pk_20] at dj266)
                  have hS267 := hS247.tr g262 (by decide +kernel) (by decide +kernel)
                  have c268 : I259 a0 11 = v27 := (g262.cell ta0 (by decide +kernel)).trans c250
                  have c269 : I259 a25 0 = v118 := (g262.cell ta25 (by decide +kernel)).trans c251
                  have c270 : I259 a0 7 = v229 := (g262.cell ta0 (by decide +kernel)).trans c253
                  have c271 : I259 a25 1 = v229 := (g262.cell ta25 (by decide +kernel)).trans e248
                  have hO272 : FrO 2 a25 T I0 I259 := hO258.st g262 (by decide +kernel)
                  have hL273 := hL206.tr gl263 (by decide +kernel)
                  rcases dj266 with ⟨p274, p275, p276, p277, p278, p279, p280, p281, p282, -⟩ | ⟨p283, p284, p285, p286, -⟩
                  · skip
                    obtain ⟨v287, c288⟩ : ∃ v, I259 a0 15 = v := ⟨_, rfl⟩
                    rw [c288] at p275
                    rw [c252] at p275
                    obtain ⟨v289, c290⟩ : ∃ v, I259 a0 2 = v := ⟨_, rfl⟩
                    have b291 := iv7_2 hS267.1 ta0 c290
                    rw [c290] at p278
                    obtain ⟨v292, c293⟩ : ∃ v, I259 a0 4 = v := ⟨_, rfl⟩
                    have b294 := iv7_4 hS267.1 ta0 c293
                    rw [c293] at p279
                    obtain ⟨v295, c296⟩ : ∃ v, I259 a0 3 = v := ⟨_, rfl⟩
                    have b297 := iv7_3 hS267.1 ta0 c296
                    rw [c296] at p280
                    obtain ⟨y298, c299⟩ : ∃ v, L261 a0 5 = v := ⟨_, rfl⟩
                    rw [c299] at p281
                    obtain ⟨v300, c301⟩ : ∃ v, I259 a0 6 = v := ⟨_, rfl⟩
                    rw [c301] at p282
                    replace hF := hF.neg (by exact om_2666d1da p276 p277)
                    replace hP := hP.neg (by exact om_2666d1da p276 p277)
                    refine q_if_ne 81 dX7_readAlp_76 (by decide) (fun h302 => ?_) (fun h302 => ?_)
                    · skip
                      refine q_iconst dX7_readAlp_81 (by decide) ?_
                      intro v303 h304
                      refine tr_istore_n dX7_readAlp_82 (by decide) (by decide) ?_
                      refine tr_iload_n dX7_readAlp_83 rfl ?_
                      refine tr_aload_n dX7_readAlp_84 rfl ?_
                      refine tr_getR dX7_readAlp_85 fl7_22 (kR7 hS267.1 ta0) d26 ?_
                      obtain ⟨a305, d306, ta305⟩ := rf2_2 hW0 ta25
                      refine tr_getR dX7_readAlp_88 fl7_207 (kR2 hS267.1 ta25) d306 ?_
                      refine q_alen dX7_readAlp_91 (kR18 hS267.1 ta305) (by decide) (by decide) (nR18 hS267.1 ta305) (by decide +kernel) ?_
                      intro v307 h308
                      refine q_icmp_ge 137 dX7_readAlp_92 (by decide) (fun h309 => ?_) (fun h309 => ?_)
                      · skip
                        exfalso; exact om_bca788a1 h304 h308 h309
                      · skip
                        refine tr_iload_n dX7_readAlp_95 rfl ?_
                        refine q_if_le 106 dX7_readAlp_96 (by decide) (fun h310 => ?_) (fun h310 => ?_)
                        · skip
                          refine tr_aload_n dX7_readAlp_106 rfl ?_
                          refine q_iconst dX7_readAlp_107 (by decide) ?_
                          intro v311 h312
                          refine q_bipush dX7_readAlp_108 (by decide +kernel) ?_
                          intro v313 h314
                          refine q_callVi hE (M' := mX7_takeWhole) (as := [_, _]) dX7_readAlp_110 lk7_115 inX7_takeWhole seX7_takeWhole myX7_takeWhole (by decide) ⟨by decide, by decide⟩ rfl (kR7 hS267.1 ta0) (Nat.le_of_ble_eq_true rfl) rfl rfl (by decide) (by decide) (fk_X7_takeWhole hS267.1 (gB) ((tkN gB (tkN gB (tkN gB (tkN gB (tkN gB gs)))))) ta0 (by exact om_9ed8f7f4 h312) (by exact om_ebb6199b h314) (TxA.kp hT hS267 ta0 rfl rfl rfl (by decide +kernel) (by decide +kernel)) (by (try rw [c290]); first | done | with_reducible assumption | omega) (by (try rw [c293]); first | done | with_reducible assumption | omega) (by (try rw [c296]); first | done | with_reducible assumption | omega) (by (try rw [c299]); first | done | assumption) (by (try rw [c301]); first | done | assumption) (by (try rw [((hS267.cell ta0 (by decide +kernel)).trans c20)]); first | done | with_reducible assumption | omega)) ?_
                          rintro v320 cn' K' N' I315 R316 L317 ⟨rfl, rfl, rfl, rfl, g318, gl319, h321, dj322, -⟩
                          have hS323 := hS267.tr g318 (by decide +kernel) (by decide +kernel)
                          have c324 : I315 a0 11 = v27 := (g318.cell ta0 (by decide +kernel)).trans c268
                          have c325 : I315 a25 0 = v118 := (g318.cell ta25 (by decide +kernel)).trans c269
                          have c326 : I315 a25 1 = v229 := (g318.cell ta25 (by decide +kernel)).trans c271
                          have hO327 : FrO 2 a25 T I0 I315 := hO272.st g318 (by decide +kernel)
                          have hL328 := hL273.tr gl319 (by decide +kernel)
                          rcases dj322 with ⟨p329, p330, p331, p332, p333, p334, p335, p336, p337, p338, p339, -⟩ | ⟨p340, p341, p342, p343, -⟩ | ⟨p344, p345, p346, p347, p348, -⟩
                          · skip
                            obtain ⟨v349, c350⟩ : ∃ v, I315 a0 15 = v := ⟨_, rfl⟩
                            rw [c350] at p330
                            rw [c288] at p330
                            obtain ⟨v351, c352⟩ : ∃ v, I315 a0 7 = v := ⟨_, rfl⟩
                            have b353 := iv7_7 hS323.1 ta0 c352
                            rw [c352] at p334
                            obtain ⟨v354, c355⟩ : ∃ v, I315 a0 2 = v := ⟨_, rfl⟩
                            have b356 := iv7_2 hS323.1 ta0 c355
                            rw [c355] at p335
                            obtain ⟨v357, c358⟩ : ∃ v, I315 a0 4 = v := ⟨_, rfl⟩
                            have b359 := iv7_4 hS323.1 ta0 c358
                            rw [c358] at p336
                            obtain ⟨v360, c361⟩ : ∃ v, I315 a0 3 = v := ⟨_, rfl⟩
                            have b362 := iv7_3 hS323.1 ta0 c361
                            rw [c361] at p337
                            obtain ⟨y363, c364⟩ : ∃ v, L317 a0 5 = v := ⟨_, rfl⟩
                            rw [c364] at p338
                            obtain ⟨v365, c366⟩ : ∃ v, I315 a0 6 = v := ⟨_, rfl⟩
                            rw [c366] at p339
                            replace hF := hF.neg (by exact om_10ed11b5 p331)
                            replace hP := hP.neg (by exact om_10ed11b5 p331)
                            replace hF := hF.neg (by exact om_fe8ced5b h312 h314 p332 p333 p334)
                            replace hP := hP.neg (by exact om_fe8ced5b h312 h314 p332 p333 p334)
                            refine q_if_ne 118 dX7_readAlp_113 (by decide) (fun h367 => ?_) (fun h367 => ?_)
                            · skip
                              refine tr_aload_n dX7_readAlp_118 rfl ?_
                              refine tr_getR dX7_readAlp_119 fl7_22 (kR7 hS323.1 ta0) d26 ?_
                              refine tr_getR dX7_readAlp_122 fl7_207 (kR2 hS323.1 ta25) d306 ?_
                              refine tr_iload_n dX7_readAlp_125 rfl ?_
                              refine tr_aload_n dX7_readAlp_126 rfl ?_
                              refine q_getI dX7_readAlp_127 fl7_109 (kR7 hS323.1 ta0) c352 ?_
                              refine q_iast dX7_readAlp_130 (kR18 hS323.1 ta305) (ti_in (nR18 hS323.1 ta305) (by exact om_d99fa9e4 h304) (by exact om_e7afc65a h304)) hS323 ta305 (iokF rfl) rfl (by rfl) ?_
                              intro I368 hS369 e371 f370
                              have c372 : I368 a0 11 = v27 := (f370 _ _ (fun q => by have z := ta0; rw [q.1, ta305] at z; exact absurd z (by decide))).trans c324
                              have c373 : I368 a25 0 = v118 := (f370 _ _ (fun q => by have z := ta25; rw [q.1, ta305] at z; exact absurd z (by decide))).trans c325
                              have c374 : I368 a25 1 = v229 := (f370 _ _ (fun q => by have z := ta25; rw [q.1, ta305] at z; exact absurd z (by decide))).trans c326
                              have c375 : I368 a0 15 = v349 := (f370 _ _ (fun q => by have z := ta0; rw [q.1, ta305] at z; exact absurd z (by decide))).trans c350
                              have c376 : I368 a0 7 = v351 := (f370 _ _ (fun q => by have z := ta0; rw [q.1, ta305] at z; exact absurd z (by decide))).trans c352
                              have c377 : I368 a0 2 = v354 := (f370 _ _ (fun q => by have z := ta0; rw [q.1, ta305] at z; exact absurd z (by decide))).trans c355
                              have c378 : I368 a0 4 = v357 := (f370 _ _ (fun q => by have z := ta0; rw [q.1, ta305] at z; exact absurd z (by decide))).trans c358
                              have c379 : I368 a0 3 = v360 := (f370 _ _ (fun q => by have z := ta0; rw [q.1, ta305] at z; exact absurd z (by decide))).trans c361
                              have c380 : I368 a0 6 = v365 := (f370 _ _ (fun q => by have z := ta0; rw [q.1, ta305] at z; exact absurd z (by decide))).trans c366
                              have hO381 : FrO 2 a25 T I0 I368 := hO327.put f370 ta305 (Or.inl (by decide))
                              refine q_iincE dX7_readAlp_131 rfl (by decide) (by decide) (by intro j1 j2; exact om_502d7b61 h304) ?_
                              intro v382 h383
                              refine tr_goto 83 dX7_readAlp_134 (by decide) ?_
                              refine tr_iload_n dX7_readAlp_83 rfl ?_
                              refine tr_aload_n dX7_readAlp_84 rfl ?_
                              refine tr_getR dX7_readAlp_85 fl7_22 (kR7 hS369.1 ta0) d26 ?_
                              refine tr_getR dX7_readAlp_88 fl7_207 (kR2 hS369.1 ta25) d306 ?_
                              refine q_alen dX7_readAlp_91 (kR18 hS369.1 ta305) (by decide) (by decide) (nR18 hS369.1 ta305) (by decide +kernel) ?_
                              intro v384 h385
                              refine q_icmp_ge 137 dX7_readAlp_92 (by decide) (fun h386 => ?_) (fun h386 => ?_)
                              · skip
                                exfalso; exact om_92784882 h304 h383 h385 h386
                              · skip
                                refine tr_iload_n dX7_readAlp_95 rfl ?_
                                refine q_if_le 106 dX7_readAlp_96 (by decide) (fun h387 => ?_) (fun h387 => ?_)
                                · skip
                                  exfalso; exact om_18f1b2af h304 h383 h387
                                · skip
                                  refine tr_aload_n dX7_readAlp_99 rfl ?_
                                  refine q_callVi hE (M' := mX7_takeComma) (as := []) dX7_readAlp_100 lk7_210 inX7_takeComma seX7_takeComma myX7_takeComma (by decide) ⟨by decide, by decide⟩ rfl (kR7 hS369.1 ta0) (Nat.le_of_ble_eq_true rfl) rfl rfl (by decide) (by decide) (fk_X7_takeComma hS369.1 (gB) ((tkN gB (tkN gB (tkN gB (tkN gB (tkN gB (tkN gB gs))))))) ta0 (TxA.kp hT hS369 ta0 rfl rfl rfl (by decide +kernel) (by decide +kernel)) (by (try rw [c377]); first | done | with_reducible assumption | omega) (by (try rw [c378]); first | done | with_reducible assumption | omega) (by (try rw [c379]); first | done | with_reducible assumption | omega) (by (try rw [c364]); first | done | assumption) (by (try rw [c380]); first | done | assumption) (by (try rw [((hS369.cell ta0 (by decide +kernel)).trans c20)]); first | done | with_reducible assumption | omega)) ?_
                                  rintro v393 cn' K' N' I388 R389 L390 ⟨rfl, rfl, rfl, rfl, g391, gl392, h394, dj395, -⟩
                                  have hS396 := hS369.tr g391 (by decide +kernel) (by decide +kernel)
                                  have c397 : I388 a0 11 = v27 := (g391.cell ta0 (by decide +kernel)).trans c372
                                  have c398 : I388 a25 0 = v118 := (g391.cell ta25 (by decide +kernel)).trans c373
                                  have c399 : I388 a25 1 = v229 := (g391.cell ta25 (by decide +kernel)).trans c374
                                  have c400 : I388 a0 7 = v351 := (g391.cell ta0 (by decide +kernel)).trans c376
                                  have hO401 : FrO 2 a25 T I0 I388 := hO381.st g391 (by decide +kernel)
                                  have hL402 := hL328.tr gl392 (by decide +kernel)
                                  rcases dj395 with ⟨p403, p404, p405, p406, p407, p408, p409, p410, -⟩ | ⟨p411, p412, p413, p414, -⟩
                                  · skip
                                    obtain ⟨v415, c416⟩ : ∃ v, I388 a0 15 = v := ⟨_, rfl⟩
                                    rw [c416] at p404
                                    rw [c375] at p404
                                    obtain ⟨v417, c418⟩ : ∃ v, I388 a0 2 = v := ⟨_, rfl⟩
                                    have b419 := iv7_2 hS396.1 ta0 c418
                                    rw [c418] at p406
                                    obtain ⟨v420, c421⟩ : ∃ v, I388 a0 4 = v := ⟨_, rfl⟩
                                    have b422 := iv7_4 hS396.1 ta0 c421
                                    rw [c421] at p407
                                    obtain ⟨v423, c424⟩ : ∃ v, I388 a0 3 = v := ⟨_, rfl⟩
                                    have b425 := iv7_3 hS396.1 ta0 c424
                                    rw [c424] at p408
                                    obtain ⟨y426, c427⟩ : ∃ v, L390 a0 5 = v := ⟨_, rfl⟩
                                    rw [c427] at p409
                                    obtain ⟨v428, c429⟩ : ∃ v, I388 a0 6 = v := ⟨_, rfl⟩
                                    rw [c429] at p410
                                    replace hF := hF.neg (by exact om_36f7df28 p405)
                                    replace hP := hP.neg (by exact om_36f7df28 p405)
                                    refine q_if_eq 116 dX7_readAlp_103 (by decide) (fun h430 => ?_) (fun h430 => ?_)
                                    · skip
                                      exfalso; exact om_3624102b p403 h430
                                    · skip
                                      refine tr_aload_n dX7_readAlp_106 rfl ?_
                                      refine q_iconst dX7_readAlp_107 (by decide) ?_
                                      intro v431 h432
                                      refine q_bipush dX7_readAlp_108 (by decide +kernel) ?_
                                      intro v433 h434
                                      refine q_callVi hE (M' := mX7_takeWhole) (as := [_, _]) dX7_readAlp_110 lk7_115 inX7_takeWhole seX7_takeWhole myX7_takeWhole (by decide) ⟨by decide, by decide⟩ rfl (kR7 hS396.1 ta0) (Nat.le_of_ble_eq_true rfl) rfl rfl (by decide) (by decide) (fk_X7_takeWhole hS396.1 (gB) ((tkN gB (tkN gB (tkN gB (tkN gB (tkN gB (tkN gB (tkN gB gs)))))))) ta0 (by exact om_9ed8f7f4 h432) (by exact om_ebb6199b h434) (TxA.kp hT hS396 ta0 rfl rfl rfl (by decide +kernel) (by decide +kernel)) (by (try rw [c418]); first | done | with_reducible assumption | omega) (by (try rw [c421]); first | done | with_reducible assumption | omega) (by (try rw [c424]); first | done | with_reducible assumption | omega) (by (try rw [c427]); first | done | assumption) (by (try rw [c429]); first | done | assumption) (by (try rw [((hS396.cell ta0 (by decide +kernel)).trans c20)]); first | done | with_reducible assumption | omega)) ?_
                                      rintro v440 cn' K' N' I435 R436 L437 ⟨rfl, rfl, rfl, rfl, g438, gl439, h441, dj442, -⟩
                                      have hS443 := hS396.tr g438 (by decide +kernel) (by decide +kernel)
                                      have c444 : I435 a0 11 = v27 := (g438.cell ta0 (by decide +kernel)).trans c397
                                      have c445 : I435 a25 0 = v118 := (g438.cell ta25 (by decide +kernel)).trans c398
                                      have c446 : I435 a25 1 = v229 := (g438.cell ta25 (by decide +kernel)).trans c399
                                      have hO447 : FrO 2 a25 T I0 I435 := hO401.st g438 (by decide +kernel)
                                      have hL448 := hL402.tr gl439 (by decide +kernel)
                                      rcases dj442 with ⟨p449, p450, p451, p452, p453, p454, p455, p456, p457, p458, p459, -⟩ | ⟨p460, p461, p462, p463, -⟩ | ⟨p464, p465, p466, p467, p468, -⟩
                                      · skip
                                        obtain ⟨v469, c470⟩ : ∃ v, I435 a0 15 = v := ⟨_, rfl⟩
                                        rw [c470] at p450
                                        rw [c416] at p450
                                        obtain ⟨v471, c472⟩ : ∃ v, I435 a0 7 = v := ⟨_, rfl⟩
                                        have b473 := iv7_7 hS443.1 ta0 c472
                                        rw [c472] at p454
                                        obtain ⟨v474, c475⟩ : ∃ v, I435 a0 2 = v := ⟨_, rfl⟩
                                        have b476 := iv7_2 hS443.1 ta0 c475
                                        rw [c475] at p455
                                        obtain ⟨v477, c478⟩ : ∃ v, I435 a0 4 = v := ⟨_, rfl⟩
                                        have b479 := iv7_4 hS443.1 ta0 c478
                                        rw [c478] at p456
                                        obtain ⟨v480, c481⟩ : ∃ v, I435 a0 3 = v := ⟨_, rfl⟩
                                        have b482 := iv7_3 hS443.1 ta0 c481
                                        rw [c481] at p457
                                        obtain ⟨y483, c484⟩ : ∃ v, L437 a0 5 = v := ⟨_, rfl⟩
                                        rw [c484] at p458
                                        obtain ⟨v485, c486⟩ : ∃ v, I435 a0 6 = v := ⟨_, rfl⟩
                                        rw [c486] at p459
                                        replace hF := hF.neg (by exact om_10ed11b5 p451)
                                        replace hP := hP.neg (by exact om_10ed11b5 p451)
                                        replace hF := hF.neg (by exact om_fe8ced5b h432 h434 p452 p453 p454)
                                        replace hP := hP.neg (by exact om_fe8ced5b h432 h434 p452 p453 p454)
                                        refine q_if_ne 118 dX7_readAlp_113 (by decide) (fun h487 => ?_) (fun h487 => ?_)
                                        · skip
                                          refine tr_aload_n dX7_readAlp_118 rfl ?_
                                          refine tr_getR dX7_readAlp_119 fl7_22 (kR7 hS443.1 ta0) d26 ?_
                                          refine tr_getR dX7_readAlp_122 fl7_207 (kR2 hS443.1 ta25) d306 ?_
                                          refine tr_iload_n dX7_readAlp_125 rfl ?_
                                          refine tr_aload_n dX7_readAlp_126 rfl ?_
                                          refine q_getI dX7_readAlp_127 fl7_109 (kR7 hS443.1 ta0) c472 ?_
                                          refine q_iast dX7_readAlp_130 (kR18 hS443.1 ta305) (ti_in (nR18 hS443.1 ta305) (by exact om_402918db h304 h383) (by exact om_a7c15354 h304 h383)) hS443 ta305 (iokF rfl) rfl (by rfl) ?_
                                          intro I488 hS489 e491 f490
                                          have c492 : I488 a0 11 = v27 := (f490 _ _ (fun q => by have z := ta0; rw [q.1, ta305] at z; exact absurd z (by decide))).trans c444
                                          have c493 : I488 a25 0 = v118 := (f490 _ _ (fun q => by have z := ta25; rw [q.1, ta305] at z; exact absurd z (by decide))).trans c445
                                          have c494 : I488 a25 1 = v229 := (f490 _ _ (fun q => by have z := ta25; rw [q.1, ta305] at z; exact absurd z (by decide))).trans c446
                                          have c495 : I488 a0 15 = v469 := (f490 _ _ (fun q => by have z := ta0; rw [q.1, ta305] at z; exact absurd z (by decide))).trans c470
                                          have c496 : I488 a0 7 = v471 := (f490 _ _ (fun q => by have z := ta0; rw [q.1, ta305] at z; exact absurd z (by decide))).trans c472
                                          have c497 : I488 a0 2 = v474 := (f490 _ _ (fun q => by have z := ta0; rw [q.1, ta305] at z; exact absurd z (by decide))).trans c475
                                          have c498 : I488 a0 4 = v477 := (f490 _ _ (fun q => by have z := ta0; rw [q.1, ta305] at z; exact absurd z (by decide))).trans c478
                                          have c499 : I488 a0 3 = v480 := (f490 _ _ (fun q => by have z := ta0; rw [q.1, ta305] at z; exact absurd z (by decide))).trans c481
                                          have c500 : I488 a0 6 = v485 := (f490 _ _ (fun q => by have z := ta0; rw [q.1, ta305] at z; exact absurd z (by decide))).trans c486
                                          have hO501 : FrO 2 a25 T I0 I488 := hO447.put f490 ta305 (Or.inl (by decide))
                                          refine q_iincE dX7_readAlp_131 rfl (by decide) (by decide) (by intro j1 j2; exact om_ffa31f14 h304 h383) ?_
                                          intro v502 h503
                                          refine tr_goto 83 dX7_readAlp_134 (by decide) ?_
                                          refine tr_iload_n dX7_readAlp_83 rfl ?_
                                          refine tr_aload_n dX7_readAlp_84 rfl ?_
                                          refine tr_getR dX7_readAlp_85 fl7_22 (kR7 hS489.1 ta0) d26 ?_
                                          refine tr_getR dX7_readAlp_88 fl7_207 (kR2 hS489.1 ta25) d306 ?_
                                          refine q_alen dX7_readAlp_91 (kR18 hS489.1 ta305) (by decide) (by decide) (nR18 hS489.1 ta305) (by decide +kernel) ?_
                                          intro v504 h505
                                          refine q_icmp_ge 137 dX7_readAlp_92 (by decide) (fun h506 => ?_) (fun h506 => ?_)
                                          · skip
                                            exfalso; exact om_a6918bf2 h304 h383 h503 h505 h506
                                          · skip
                                            refine tr_iload_n dX7_readAlp_95 rfl ?_
                                            refine q_if_le 106 dX7_readAlp_96 (by decide) (fun h507 => ?_) (fun h507 => ?_)
                                            · skip
                                              exfalso; exact om_38ece8a0 h304 h383 h503 h507
                                            · skip
                                              refine tr_aload_n dX7_readAlp_99 rfl ?_
                                              refine q_callVi hE (M' := mX7_takeComma) (as := []) dX7_readAlp_100 lk7_210 inX7_takeComma seX7_takeComma myX7_takeComma (by decide) ⟨by decide, by decide⟩ rfl (kR7 hS489.1 ta0) (Nat.le_of_ble_eq_true rfl) rfl rfl (by decide) (by decide) (fk_X7_takeComma hS489.1 (gB) ((tkN gB (tkN gB (tkN gB (tkN gB (tkN gB (tkN gB (tkN gB (tkN gB gs))))))))) ta0 (TxA.kp hT hS489 ta0 rfl rfl rfl (by decide +kernel) (by decide +kernel)) (by (try rw [c497]); first | done | with_reducible assumption | omega) (by (try rw [c498]); first | done | with_reducible assumption | omega) (by (try rw [c499]); first | done | with_reducible assumption | omega) (by (try rw [c484]); first | done | assumption) (by (try rw [c500]); first | done | assumption) (by (try rw [((hS489.cell ta0 (by decide +kernel)).trans c20)]); first | done | with_reducible assumption | omega)) ?_
                                              rintro v513 cn' K' N' I508 R509 L510 ⟨rfl, rfl, rfl, rfl, g511, gl512, h514, dj515, -⟩
                                              have hS516 := hS489.tr g511 (by decide +kernel) (by decide +kernel)
                                              have c517 : I508 a0 11 = v27 := (g511.cell ta0 (by decide +kernel)).trans c492
                                              have c518 : I508 a25 0 = v118 := (g511.cell ta25 (by decide +kernel)).trans c493
                                              have c519 : I508 a25 1 = v229 := (g511.cell ta25 (by decide +kernel)).trans c494
                                              have c520 : I508 a0 7 = v471 := (g511.cell ta0 (by decide +kernel)).trans c496
                                              have hO521 : FrO 2 a25 T I0 I508 := hO501.st g511 (by decide +kernel)
                                              have hL522 := hL448.tr gl512 (by decide +kernel)
                                              rcases dj515 with ⟨p523, p524, p525, p526, p527, p528, p529, p530, -⟩ | ⟨p531, p532, p533, p534, -⟩
                                              · skip
                                                obtain ⟨v535, c536⟩ : ∃ v, I508 a0 15 = v := ⟨_, rfl⟩
                                                rw [c536] at p524
                                                rw [c495] at p524
                                                obtain ⟨v537, c538⟩ : ∃ v, I508 a0 2 = v := ⟨_, rfl⟩
                                                have b539 := iv7_2 hS516.1 ta0 c538
                                                rw [c538] at p526
                                                obtain ⟨v540, c541⟩ : ∃ v, I508 a0 4 = v := ⟨_, rfl⟩
                                                have b542 := iv7_4 hS516.1 ta0 c541
                                                rw [c541] at p527
                                                obtain ⟨v543, c544⟩ : ∃ v, I508 a0 3 = v := ⟨_, rfl⟩
                                                have b545 := iv7_3 hS516.1 ta0 c544
                                                rw [c544] at p528
                                                obtain ⟨y546, c547⟩ : ∃ v, L510 a0 5 = v := ⟨_, rfl⟩
                                                rw [c547] at p529
                                                obtain ⟨v548, c549⟩ : ∃ v, I508 a0 6 = v := ⟨_, rfl⟩
                                                rw [c549] at p530
                                                replace hF := hF.neg (by exact om_36f7df28 p525)
                                                replace hP := hP.neg (by exact om_36f7df28 p525)
                                                refine q_if_eq 116 dX7_readAlp_103 (by decide) (fun h550 => ?_) (fun h550 => ?_)
                                                · skip
                                                  exfalso; exact om_3624102b p523 h550
                                                · skip
                                                  refine tr_aload_n dX7_readAlp_106 rfl ?_
                                                  refine q_iconst dX7_readAlp_107 (by decide) ?_
                                                  intro v551 h552
                                                  refine q_bipush dX7_readAlp_108 (by decide +kernel) ?_
                                                  intro v553 h554
                                                  refine q_callVi hE (M' := mX7_takeWhole) (as := [_, _]) dX7_readAlp_110 lk7_115 inX7_takeWhole seX7_takeWhole myX7_takeWhole (by decide) ⟨by decide, by decide⟩ rfl (kR7 hS516.1 ta0) (Nat.le_of_ble_eq_true rfl) rfl rfl (by decide) (by decide) (fk_X7_takeWhole hS516.1 (gB) ((tkN gB (tkN gB (tkN gB (tkN gB (tkN gB (tkN gB (tkN gB (tkN gB (tkN gB gs)))))))))) ta0 (by exact om_9ed8f7f4 h552) (by exact om_ebb6199b h554) (TxA.kp hT hS516 ta0 rfl rfl rfl (by decide +kernel) (by decide +kernel)) (by (try rw [c538]); first | done | with_reducible assumption | omega) (by (try rw [c541]); first | done | with_reducible assumption | omega) (by (try rw [c544]); first | done | with_reducible assumption | omega) (by (try rw [c547]); first | done | assumption) (by (try rw [c549]); first | done | assumption) (by (try rw [((hS516.cell ta0 (by decide +kernel)).trans c20)]); first | done | with_reducible assumption | omega)) ?_
                                                  rintro v560 cn' K' N' I555 R556 L557 ⟨rfl, rfl, rfl, rfl, g558, gl559, h561, dj562, -⟩
                                                  have hS563 := hS516.tr g558 (by decide +kernel) (by decide +kernel)
                                                  have c564 : I555 a0 11 = v27 := (g558.cell ta0 (by decide +kernel)).trans c517
                                                  have c565 : I555 a25 0 = v118 := (g558.cell ta25 (by decide +kernel)).trans c518
                                                  have c566 : I555 a25 1 = v229 := (g558.cell ta25 (by decide +kernel)).trans c519
                                                  have hO567 : FrO 2 a25 T I0 I555 := hO521.st g558 (by decide +kernel)
                                                  have hL568 := hL522.tr gl559 (by decide +kernel)
                                                  rcases dj562 with ⟨p569, p570, p571, p572, p573, p574, p575, p576, p577, p578, p579, -⟩ | ⟨p580, p581, p582, p583, -⟩ | ⟨p584, p585, p586, p587, p588, -⟩
                                                  · skip
                                                    obtain ⟨v589, c590⟩ : ∃ v, I555 a0 15 = v := ⟨_, rfl⟩
                                                    rw [c590] at p570
                                                    rw [c536] at p570
                                                    obtain ⟨v591, c592⟩ : ∃ v, I555 a0 7 = v := ⟨_, rfl⟩
                                                    have b593 := iv7_7 hS563.1 ta0 c592
                                                    rw [c592] at p574
                                                    obtain ⟨v594, c595⟩ : ∃ v, I555 a0 2 = v := ⟨_, rfl⟩
                                                    have b596 := iv7_2 hS563.1 ta0 c595
                                                    rw [c595] at p575
                                                    obtain ⟨v597, c598⟩ : ∃ v, I555 a0 4 = v := ⟨_, rfl⟩
                                                    have b599 := iv7_4 hS563.1 ta0 c598
                                                    rw [c598] at p576
                                                    obtain ⟨v600, c601⟩ : ∃ v, I555 a0 3 = v := ⟨_, rfl⟩
                                                    have b602 := iv7_3 hS563.1 ta0 c601
                                                    rw [c601] at p577
                                                    obtain ⟨y603, c604⟩ : ∃ v, L557 a0 5 = v := ⟨_, rfl⟩
                                                    rw [c604] at p578
                                                    obtain ⟨v605, c606⟩ : ∃ v, I555 a0 6 = v := ⟨_, rfl⟩
                                                    rw [c606] at p579
                                                    replace hF := hF.neg (by exact om_10ed11b5 p571)
                                                    replace hP := hP.neg (by exact om_10ed11b5 p571)
                                                    replace hF := hF.neg (by exact om_fe8ced5b h552 h554 p572 p573 p574)
                                                    replace hP := hP.neg (by exact om_fe8ced5b h552 h554 p572 p573 p574)
                                                    refine q_if_ne 118 dX7_readAlp_113 (by decide) (fun h607 => ?_) (fun h607 => ?_)
                                                    · skip
                                                      refine tr_aload_n dX7_readAlp_118 rfl ?_
                                                      refine tr_getR dX7_readAlp_119 fl7_22 (kR7 hS563.1 ta0) d26 ?_
                                                      refine tr_getR dX7_readAlp_122 fl7_207 (kR2 hS563.1 ta25) d306 ?_
                                                      refine tr_iload_n dX7_readAlp_125 rfl ?_
                                                      refine tr_aload_n dX7_readAlp_126 rfl ?_
                                                      refine q_getI dX7_readAlp_127 fl7_109 (kR7 hS563.1 ta0) c592 ?_
                                                      refine q_iast dX7_readAlp_130 (kR18 hS563.1 ta305) (ti_in (nR18 hS563.1 ta305) (by exact om_70533a47 h304 h383 h503) (by exact om_00d01f83 h304 h383 h503)) hS563 ta305 (iokF rfl) rfl (by rfl) ?_
                                                      intro I608 hS609 e611 f610
                                                      have c612 : I608 a0 11 = v27 := (f610 _ _ (fun q => by have z := ta0; rw [q.1, ta305] at z; exact absurd z (by decide))).trans c564
                                                      have c613 : I608 a25 0 = v118 := (f610 _ _ (fun q => by have z := ta25; rw [q.1, ta305] at z; exact absurd z (by decide))).trans c565
                                                      have c614 : I608 a25 1 = v229 := (f610 _ _ (fun q => by have z := ta25; rw [q.1, ta305] at z; exact absurd z (by decide))).trans c566
                                                      have c615 : I608 a0 15 = v589 := (f610 _ _ (fun q => by have z := ta0; rw [q.1, ta305] at z; exact absurd z (by decide))).trans c590
                                                      have c616 : I608 a0 7 = v591 := (f610 _ _ (fun q => by have z := ta0; rw [q.1, ta305] at z; exact absurd z (by decide))).trans c592
                                                      have c617 : I608 a0 2 = v594 := (f610 _ _ (fun q => by have z := ta0; rw [q.1, ta305] at z; exact absurd z (by decide))).trans c595
                                                      have c618 : I608 a0 4 = v597 := (f610 _ _ (fun q => by have z := ta0; rw [q.1, ta305] at z; exact absurd z (by decide))).trans c598
                                                      have c619 : I608 a0 3 = v600 := (f610 _ _ (fun q => by have z := ta0; rw [q.1, ta305] at z; exact absurd z (by decide))).trans c601
                                                      have c620 : I608 a0 6 = v605 := (f610 _ _ (fun q => by have z := ta0; rw [q.1, ta305] at z; exact absurd z (by decide))).trans c606
                                                      have hO621 : FrO 2 a25 T I0 I608 := hO567.put f610 ta305 (Or.inl (by decide))
                                                      refine q_iincE dX7_readAlp_131 rfl (by decide) (by decide) (by intro j1 j2; exact om_c222afaf h304 h383 h503) ?_
                                                      intro v622 h623
                                                      refine tr_goto 83 dX7_readAlp_134 (by decide) ?_
                                                      refine tr_iload_n dX7_readAlp_83 rfl ?_
                                                      refine tr_aload_n dX7_readAlp_84 rfl ?_
                                                      refine tr_getR dX7_readAlp_85 fl7_22 (kR7 hS609.1 ta0) d26 ?_
                                                      refine tr_getR dX7_readAlp_88 fl7_207 (kR2 hS609.1 ta25) d306 ?_
                                                      refine q_alen dX7_readAlp_91 (kR18 hS609.1 ta305) (by decide) (by decide) (nR18 hS609.1 ta305) (by decide +kernel) ?_
                                                      intro v624 h625
                                                      refine q_icmp_ge 137 dX7_readAlp_92 (by decide) (fun h626 => ?_) (fun h626 => ?_)
                                                      · skip
                                                        exfalso; exact om_be0230e1 h304 h383 h503 h623 h625 h626
                                                      · skip
                                                        refine tr_iload_n dX7_readAlp_95 rfl ?_
                                                        refine q_if_le 106 dX7_readAlp_96 (by decide) (fun h627 => ?_) (fun h627 => ?_)
                                                        · skip
                                                          exfalso; exact om_9780174a h304 h383 h503 h623 h627
                                                        · skip
                                                          refine tr_aload_n dX7_readAlp_99 rfl ?_
                                                          refine q_callVi hE (M' := mX7_takeComma) (as := []) dX7_readAlp_100 lk7_210 inX7_takeComma seX7_takeComma myX7_takeComma (by decide) ⟨by decide, by decide⟩ rfl (kR7 hS609.1 ta0) (Nat.le_of_ble_eq_true rfl) rfl rfl (by decide) (by decide) (fk_X7_takeComma hS609.1 (gB) ((tkN gB (tkN gB (tkN gB (tkN gB (tkN gB (tkN gB (tkN gB (tkN gB (tkN gB (tkN gB gs))))))))))) ta0 (TxA.kp hT hS609 ta0 rfl rfl rfl (by decide +kernel) (by decide +kernel)) (by (try rw [c617]); first | done | with_reducible assumption | omega) (by (try rw [c618]); first | done | with_reducible assumption | omega) (by (try rw [c619]); first | done | with_reducible assumption | omega) (by (try rw [c604]); first | done | assumption) (by (try rw [c620]); first | done | assumption) (by (try rw [((hS609.cell ta0 (by decide +kernel)).trans c20)]); first | done | with_reducible assumption | omega)) ?_
                                                          rintro v633 cn' K' N' I628 R629 L630 ⟨rfl, rfl, rfl, rfl, g631, gl632, h634, dj635, -⟩
                                                          have hS636 := hS609.tr g631 (by decide +kernel) (by decide +kernel)
                                                          have c637 : I628 a0 11 = v27 := (g631.cell ta0 (by decide +kernel)).trans c612
                                                          have c638 : I628 a25 0 = v118 := (g631.cell ta25 (by decide +kernel)).trans c613
                                                          have c639 : I628 a25 1 = v229 := (g631.cell ta25 (by decide +kernel)).trans c614
                                                          have c640 : I628 a0 7 = v591 := (g631.cell ta0 (by decide +kernel)).trans c616
                                                          have hO641 : FrO 2 a25 T I0 I628 := hO621.st g631 (by decide +kernel)
                                                          have hL642 := hL568.tr gl632 (by decide +kernel)
                                                          rcases dj635 with ⟨p643, p644, p645, p646, p647, p648, p649, p650, -⟩ | ⟨p651, p652, p653, p654, -⟩
                                                          · skip
                                                            obtain ⟨v655, c656⟩ : ∃ v, I628 a0 15 = v := ⟨_, rfl⟩
                                                            rw [c656] at p644
                                                            rw [c615] at p644
                                                            obtain ⟨v657, c658⟩ : ∃ v, I628 a0 2 = v := ⟨_, rfl⟩
                                                            have b659 := iv7_2 hS636.1 ta0 c658
                                                            rw [c658] at p646
                                                            obtain ⟨v660, c661⟩ : ∃ v, I628 a0 4 = v := ⟨_, rfl⟩
                                                            have b662 := iv7_4 hS636.1 ta0 c661
                                                            rw [c661] at p647
                                                            obtain ⟨v663, c664⟩ : ∃ v, I628 a0 3 = v := ⟨_, rfl⟩
                                                            have b665 := iv7_3 hS636.1 ta0 c664
                                                            rw [c664] at p648
                                                            obtain ⟨y666, c667⟩ : ∃ v, L630 a0 5 = v := ⟨_, rfl⟩
                                                            rw [c667] at p649
                                                            obtain ⟨v668, c669⟩ : ∃ v, I628 a0 6 = v := ⟨_, rfl⟩
                                                            rw [c669] at p650
                                                            replace hF := hF.neg (by exact om_36f7df28 p645)
                                                            replace hP := hP.neg (by exact om_36f7df28 p645)
                                                            refine q_if_eq 116 dX7_readAlp_103 (by decide) (fun h670 => ?_) (fun h670 => ?_)
                                                            · skip
                                                              exfalso; exact om_3624102b p643 h670
                                                            · skip
                                                              refine tr_aload_n dX7_readAlp_106 rfl ?_
                                                              refine q_iconst dX7_readAlp_107 (by decide) ?_
                                                              intro v671 h672
                                                              refine q_bipush dX7_readAlp_108 (by decide +kernel) ?_
                                                              intro v673 h674
                                                              refine q_callVi hE (M' := mX7_takeWhole) (as := [_, _]) dX7_readAlp_110 lk7_115 inX7_takeWhole seX7_takeWhole myX7_takeWhole (by decide) ⟨by decide, by decide⟩ rfl (kR7 hS636.1 ta0) (Nat.le_of_ble_eq_true rfl) rfl rfl (by decide) (by decide) (fk_X7_takeWhole hS636.1 (gB) ((tkN gB (tkN gB (tkN gB (tkN gB (tkN gB (tkN gB (tkN gB (tkN gB (tkN gB (tkN gB (tkN gB gs)))))))))))) ta0 (by exact om_9ed8f7f4 h672) (by exact om_ebb6199b h674) (TxA.kp hT hS636 ta0 rfl rfl rfl (by decide +kernel) (by decide +kernel)) (by (try rw [c658]); first | done | with_reducible assumption | omega) (by (try rw [c661]); first | done | with_reducible assumption | omega) (by (try rw [c664]); first | done | with_reducible assumption | omega) (by (try rw [c667]); first | done | assumption) (by (try rw [c669]); first | done | assumption) (by (try rw [((hS636.cell ta0 (by decide +kernel)).trans c20)]); first | done | with_reducible assumption | omega)) ?_
                                                              rintro v680 cn' K' N' I675 R676 L677 ⟨rfl, rfl, rfl, rfl, g678, gl679, h681, dj682, -⟩
                                                              have hS683 := hS636.tr g678 (by decide +kernel) (by decide +kernel)
                                                              have c684 : I675 a0 11 = v27 := (g678.cell ta0 (by decide +kernel)).trans c637
                                                              have c685 : I675 a25 0 = v118 := (g678.cell ta25 (by decide +kernel)).trans c638
                                                              have c686 : I675 a25 1 = v229 := (g678.cell ta25 (by decide +kernel)).trans c639
                                                              have hO687 : FrO 2 a25 T I0 I675 := hO641.st g678 (by decide +kernel)
                                                              have hL688 := hL642.tr gl679 (by decide +kernel)
                                                              rcases dj682 with ⟨p689, p690, p691, p692, p693, p694, p695, p696, p697, p698, p699, -⟩ | ⟨p700, p701, p702, p703, -⟩ | ⟨p704, p705, p706, p707, p708, -⟩
                                                              · skip
                                                                obtain ⟨v709, c710⟩ : ∃ v, I675 a0 15 = v := ⟨_, rfl⟩
                                                                rw [c710] at p690
                                                                rw [c656] at p690
                                                                obtain ⟨v711, c712⟩ : ∃ v, I675 a0 7 = v := ⟨_, rfl⟩
                                                                have b713 := iv7_7 hS683.1 ta0 c712
                                                                rw [c712] at p694
                                                                obtain ⟨v714, c715⟩ : ∃ v, I675 a0 2 = v := ⟨_, rfl⟩
                                                                have b716 := iv7_2 hS683.1 ta0 c715
                                                                rw [c715] at p695
                                                                obtain ⟨v717, c718⟩ : ∃ v, I675 a0 4 = v := ⟨_, rfl⟩
                                                                have b719 := iv7_4 hS683.1 ta0 c718
                                                                rw [c718] at p696
                                                                obtain ⟨v720, c721⟩ : ∃ v, I675 a0 3 = v := ⟨_, rfl⟩
                                                                have b722 := iv7_3 hS683.1 ta0 c721
                                                                rw [c721] at p697
                                                                obtain ⟨y723, c724⟩ : ∃ v, L677 a0 5 = v := ⟨_, rfl⟩
                                                                rw [c724] at p698
                                                                obtain ⟨v725, c726⟩ : ∃ v, I675 a0 6 = v := ⟨_, rfl⟩
                                                                rw [c726] at p699
                                                                replace hF := hF.neg (by exact om_10ed11b5 p691)
                                                                replace hP := hP.neg (by exact om_10ed11b5 p691)
                                                                replace hF := hF.neg (by exact om_fe8ced5b h672 h674 p692 p693 p694)
                                                                replace hP := hP.neg (by exact om_fe8ced5b h672 h674 p692 p693 p694)
                                                                refine q_if_ne 118 dX7_readAlp_113 (by decide) (fun h727 => ?_) (fun h727 => ?_)
                                                                · skip
                                                                  refine tr_aload_n dX7_readAlp_118 rfl ?_
                                                                  refine tr_getR dX7_readAlp_119 fl7_22 (kR7 hS683.1 ta0) d26 ?_
                                                                  refine tr_getR dX7_readAlp_122 fl7_207 (kR2 hS683.1 ta25) d306 ?_
                                                                  refine tr_iload_n dX7_readAlp_125 rfl ?_
                                                                  refine tr_aload_n dX7_readAlp_126 rfl ?_
                                                                  refine q_getI dX7_readAlp_127 fl7_109 (kR7 hS683.1 ta0) c712 ?_
                                                                  refine q_iast dX7_readAlp_130 (kR18 hS683.1 ta305) (ti_in (nR18 hS683.1 ta305) (by exact om_5b4fddb5 h304 h383 h503 h623) (by exact om_7bfe2d13 h304 h383 h503 h623)) hS683 ta305 (iokF rfl) rfl (by rfl) ?_
                                                                  intro I728 hS729 e731 f730
                                                                  have c732 : I728 a0 11 = v27 := (f730 _ _ (fun q => by have z := ta0; rw [q.1, ta305] at z; exact absurd z (by decide))).trans c684
                                                                  have c733 : I728 a25 0 = v118 := (f730 _ _ (fun q => by have z := ta25; rw [q.1, ta305] at z; exact absurd z (by decide))).trans c685
                                                                  have c734 : I728 a25 1 = v229 := (f730 _ _ (fun q => by have z := ta25; rw [q.1, ta305] at z; exact absurd z (by decide))).trans c686
                                                                  have c735 : I728 a0 15 = v709 := (f730 _ _ (fun q => by have z := ta0; rw [q.1, ta305] at z; exact absurd z (by decide))).trans c710
                                                                  have c736 : I728 a0 7 = v711 := (f730 _ _ (fun q => by have z := ta0; rw [q.1, ta305] at z; exact absurd z (by decide))).trans c712
                                                                  have c737 : I728 a0 2 = v714 := (f730 _ _ (fun q => by have z := ta0; rw [q.1, ta305] at z; exact absurd z (by decide))).trans c715
                                                                  have c738 : I728 a0 4 = v717 := (f730 _ _ (fun q => by have z := ta0; rw [q.1, ta305] at z; exact absurd z (by decide))).trans c718
                                                                  have c739 : I728 a0 3 = v720 := (f730 _ _ (fun q => by have z := ta0; rw [q.1, ta305] at z; exact absurd z (by decide))).trans c721
                                                                  have c740 : I728 a0 6 = v725 := (f730 _ _ (fun q => by have z := ta0; rw [q.1, ta305] at z; exact absurd z (by decide))).trans c726
                                                                  have hO741 : FrO 2 a25 T I0 I728 := hO687.put f730 ta305 (Or.inl (by decide))
                                                                  refine q_iincE dX7_readAlp_131 rfl (by decide) (by decide) (by intro j1 j2; exact om_3ce631fb h304 h383 h503 h623) ?_
                                                                  intro v742 h743
                                                                  refine tr_goto 83 dX7_readAlp_134 (by decide) ?_
                                                                  refine tr_iload_n dX7_readAlp_83 rfl ?_
                                                                  refine tr_aload_n dX7_readAlp_84 rfl ?_
                                                                  refine tr_getR dX7_readAlp_85 fl7_22 (kR7 hS729.1 ta0) d26 ?_
                                                                  refine tr_getR dX7_readAlp_88 fl7_207 (kR2 hS729.1 ta25) d306 ?_
                                                                  refine q_alen dX7_readAlp_91 (kR18 hS729.1 ta305) (by decide) (by decide) (nR18 hS729.1 ta305) (by decide +kernel) ?_
                                                                  intro v744 h745
                                                                  refine q_icmp_ge 137 dX7_readAlp_92 (by decide) (fun h746 => ?_) (fun h746 => ?_)
                                                                  · skip
                                                                    exfalso; exact om_a01f1a75 h304 h383 h503 h623 h743 h745 h746
                                                                  · skip
                                                                    refine tr_iload_n dX7_readAlp_95 rfl ?_
                                                                    refine q_if_le 106 dX7_readAlp_96 (by decide) (fun h747 => ?_) (fun h747 => ?_)
                                                                    · skip
                                                                      exfalso; exact om_f85ad084 h304 h383 h503 h623 h743 h747
                                                                    · skip
                                                                      refine tr_aload_n dX7_readAlp_99 rfl ?_
                                                                      refine q_callVi hE (M' := mX7_takeComma) (as := []) dX7_readAlp_100 lk7_210 inX7_takeComma seX7_takeComma myX7_takeComma (by decide) ⟨by decide, by decide⟩ rfl (kR7 hS729.1 ta0) (Nat.le_of_ble_eq_true rfl) rfl rfl (by decide) (by decide) (fk_X7_takeComma hS729.1 (gB) ((tkN gB (tkN gB (tkN gB (tkN gB (tkN gB (tkN gB (tkN gB (tkN gB (tkN gB (tkN gB (tkN gB (tkN gB gs))))))))))))) ta0 (TxA.kp hT hS729 ta0 rfl rfl rfl (by decide +kernel) (by decide +kernel)) (by (try rw [c737]); first | done | with_reducible assumption | omega) (by (try rw [c738]); first | done | with_reducible assumption | omega) (by (try rw [c739]); first | done | with_reducible assumption | omega) (by (try rw [c724]); first | done | assumption) (by (try rw [c740]); first | done | assumption) (by (try rw [((hS729.cell ta0 (by decide +kernel)).trans c20)]); first | done | with_reducible assumption | omega)) ?_
                                                                      rintro v753 cn' K' N' I748 R749 L750 ⟨rfl, rfl, rfl, rfl, g751, gl752, h754, dj755, -⟩
                                                                      have hS756 := hS729.tr g751 (by decide +kernel) (by decide +kernel)
                                                                      have c757 : I748 a0 11 = v27 := (g751.cell ta0 (by decide +kernel)).trans c732
                                                                      have c758 : I748 a25 0 = v118 := (g751.cell ta25 (by decide +kernel)).trans c733
                                                                      have c759 : I748 a25 1 = v229 := (g751.cell ta25 (by decide +kernel)).trans c734
                                                                      have c760 : I748 a0 7 = v711 := (g751.cell ta0 (by decide +kernel)).trans c736
                                                                      have hO761 : FrO 2 a25 T I0 I748 := hO741.st g751 (by decide +kernel)
                                                                      have hL762 := hL688.tr gl752 (by decide +kernel)
                                                                      rcases dj755 with ⟨p763, p764, p765, p766, p767, p768, p769, p770, -⟩ | ⟨p771, p772, p773, p774, -⟩
                                                                      · skip
                                                                        obtain ⟨v775, c776⟩ : ∃ v, I748 a0 15 = v := ⟨_, rfl⟩
                                                                        rw [c776] at p764
                                                                        rw [c735] at p764
                                                                        obtain ⟨v777, c778⟩ : ∃ v, I748 a0 2 = v := ⟨_, rfl⟩
                                                                        have b779 := iv7_2 hS756.1 ta0 c778
                                                                        rw [c778] at p766
                                                                        obtain ⟨v780, c781⟩ : ∃ v, I748 a0 4 = v := ⟨_, rfl⟩
                                                                        have b782 := iv7_4 hS756.1 ta0 c781
                                                                        rw [c781] at p767
                                                                        obtain ⟨v783, c784⟩ : ∃ v, I748 a0 3 = v := ⟨_, rfl⟩
                                                                        have b785 := iv7_3 hS756.1 ta0 c784
                                                                        rw [c784] at p768
                                                                        obtain ⟨y786, c787⟩ : ∃ v, L750 a0 5 = v := ⟨_, rfl⟩
                                                                        rw [c787] at p769
                                                                        obtain ⟨v788, c789⟩ : ∃ v, I748 a0 6 = v := ⟨_, rfl⟩
                                                                        rw [c789] at p770
                                                                        replace hF := hF.neg (by exact om_36f7df28 p765)
                                                                        replace hP := hP.neg (by exact om_36f7df28 p765)
                                                                        refine q_if_eq 116 dX7_readAlp_103 (by decide) (fun h790 => ?_) (fun h790 => ?_)
                                                                        · skip
                                                                          exfalso; exact om_3624102b p763 h790
                                                                        · skip
                                                                          refine tr_aload_n dX7_readAlp_106 rfl ?_
                                                                          refine q_iconst dX7_readAlp_107 (by decide) ?_
                                                                          intro v791 h792
                                                                          refine q_bipush dX7_readAlp_108 (by decide +kernel) ?_
                                                                          intro v793 h794
                                                                          refine q_callVi hE (M' := mX7_takeWhole) (as := [_, _]) dX7_readAlp_110 lk7_115 inX7_takeWhole seX7_takeWhole myX7_takeWhole (by decide) ⟨by decide, by decide⟩ rfl (kR7 hS756.1 ta0) (Nat.le_of_ble_eq_true rfl) rfl rfl (by decide) (by decide) (fk_X7_takeWhole hS756.1 (gB) ((tkN gB (tkN gB (tkN gB (tkN gB (tkN gB (tkN gB (tkN gB (tkN gB (tkN gB (tkN gB (tkN gB (tkN gB (tkN gB gs)))))))))))))) ta0 (by exact om_9ed8f7f4 h792) (by exact om_ebb6199b h794) (TxA.kp hT hS756 ta0 rfl rfl rfl (by decide +kernel) (by decide +kernel)) (by (try rw [c778]); first | done | with_reducible assumption | omega) (by (try rw [c781]); first | done | with_reducible assumption | omega) (by (try rw [c784]); first | done | with_reducible assumption | omega) (by (try rw [c787]); first | done | assumption) (by (try rw [c789]); first | done | assumption) (by (try rw [((hS756.cell ta0 (by decide +kernel)).trans c20)]); first | done | with_reducible assumption | omega)) ?_
                                                                          rintro v800 cn' K' N' I795 R796 L797 ⟨rfl, rfl, rfl, rfl, g798, gl799, h801, dj802, -⟩
                                                                          have hS803 := hS756.tr g798 (by decide +kernel) (by decide +kernel)
                                                                          have c804 : I795 a0 11 = v27 := (g798.cell ta0 (by decide +kernel)).trans c757
                                                                          have c805 : I795 a25 0 = v118 := (g798.cell ta25 (by decide +kernel)).trans c758
                                                                          have c806 : I795 a25 1 = v229 := (g798.cell ta25 (by decide +kernel)).trans c759
                                                                          have hO807 : FrO 2 a25 T I0 I795 := hO761.st g798 (by decide +kernel)
                                                                          have hL808 := hL762.tr gl799 (by decide +kernel)
                                                                          rcases dj802 with ⟨p809, p810, p811, p812, p813, p814, p815, p816, p817, p818, p819, -⟩ | ⟨p820, p821, p822, p823, -⟩ | ⟨p824, p825, p826, p827, p828, -⟩
                                                                          · skip
                                                                            obtain ⟨v829, c830⟩ : ∃ v, I795 a0 15 = v := ⟨_, rfl⟩
                                                                            rw [c830] at p810
                                                                            rw [c776] at p810
                                                                            obtain ⟨v831, c832⟩ : ∃ v, I795 a0 7 = v := ⟨_, rfl⟩
                                                                            have b833 := iv7_7 hS803.1 ta0 c832
                                                                            rw [c832] at p814
                                                                            obtain ⟨v834, c835⟩ : ∃ v, I795 a0 2 = v := ⟨_, rfl⟩
                                                                            have b836 := iv7_2 hS803.1 ta0 c835
                                                                            rw [c835] at p815
                                                                            obtain ⟨v837, c838⟩ : ∃ v, I795 a0 4 = v := ⟨_, rfl⟩
                                                                            have b839 := iv7_4 hS803.1 ta0 c838
                                                                            rw [c838] at p816
                                                                            obtain ⟨v840, c841⟩ : ∃ v, I795 a0 3 = v := ⟨_, rfl⟩
                                                                            have b842 := iv7_3 hS803.1 ta0 c841
                                                                            rw [c841] at p817
                                                                            obtain ⟨y843, c844⟩ : ∃ v, L797 a0 5 = v := ⟨_, rfl⟩
                                                                            rw [c844] at p818
                                                                            obtain ⟨v845, c846⟩ : ∃ v, I795 a0 6 = v := ⟨_, rfl⟩
                                                                            rw [c846] at p819
                                                                            replace hF := hF.neg (by exact om_10ed11b5 p811)
                                                                            replace hP := hP.neg (by exact om_10ed11b5 p811)
                                                                            replace hF := hF.neg (by exact om_fe8ced5b h792 h794 p812 p813 p814)
                                                                            replace hP := hP.neg (by exact om_fe8ced5b h792 h794 p812 p813 p814)
                                                                            refine q_if_ne 118 dX7_readAlp_113 (by decide) (fun h847 => ?_) (fun h847 => ?_)
                                                                            · skip
                                                                              refine tr_aload_n dX7_readAlp_118 rfl ?_
                                                                              refine tr_getR dX7_readAlp_119 fl7_22 (kR7 hS803.1 ta0) d26 ?_
                                                                              refine tr_getR dX7_readAlp_122 fl7_207 (kR2 hS803.1 ta25) d306 ?_
                                                                              refine tr_iload_n dX7_readAlp_125 rfl ?_
                                                                              refine tr_aload_n dX7_readAlp_126 rfl ?_
                                                                              refine q_getI dX7_readAlp_127 fl7_109 (kR7 hS803.1 ta0) c832 ?_
                                                                              refine q_iast dX7_readAlp_130 (kR18 hS803.1 ta305) (ti_in (nR18 hS803.1 ta305) (by exact om_ba969cb0 h304 h383 h503 h623 h743) (by exact om_8a996ee0 h304 h383 h503 h623 h743)) hS803 ta305 (iokF rfl) rfl (by rfl) ?_
                                                                              intro I848 hS849 e851 f850
                                                                              have c852 : I848 a0 11 = v27 := (f850 _ _ (fun q => by have z := ta0; rw [q.1, ta305] at z; exact absurd z (by decide))).trans c804
                                                                              have c853 : I848 a25 0 = v118 := (f850 _ _ (fun q => by have z := ta25; rw [q.1, ta305] at z; exact absurd z (by decide))).trans c805
                                                                              have c854 : I848 a25 1 = v229 := (f850 _ _ (fun q => by have z := ta25; rw [q.1, ta305] at z; exact absurd z (by decide))).trans c806
                                                                              have c855 : I848 a0 15 = v829 := (f850 _ _ (fun q => by have z := ta0; rw [q.1, ta305] at z; exact absurd z (by decide))).trans c830
                                                                              have c856 : I848 a0 7 = v831 := (f850 _ _ (fun q => by have z := ta0; rw [q.1, ta305] at z; exact absurd z (by decide))).trans c832
                                                                              have c857 : I848 a0 2 = v834 := (f850 _ _ (fun q => by have z := ta0; rw [q.1, ta305] at z; exact absurd z (by decide))).trans c835
                                                                              have c858 : I848 a0 4 = v837 := (f850 _ _ (fun q => by have z := ta0; rw [q.1, ta305] at z; exact absurd z (by decide))).trans c838
                                                                              have c859 : I848 a0 3 = v840 := (f850 _ _ (fun q => by have z := ta0; rw [q.1, ta305] at z; exact absurd z (by decide))).trans c841
                                                                              have c860 : I848 a0 6 = v845 := (f850 _ _ (fun q => by have z := ta0; rw [q.1, ta305] at z; exact absurd z (by decide))).trans c846
                                                                              have hO861 : FrO 2 a25 T I0 I848 := hO807.put f850 ta305 (Or.inl (by decide))
                                                                              refine q_iincE dX7_readAlp_131 rfl (by decide) (by decide) (by intro j1 j2; exact om_32d85275 h304 h383 h503 h623 h743) ?_
                                                                              intro v862 h863
                                                                              refine tr_goto 83 dX7_readAlp_134 (by decide) ?_
                                                                              refine tr_iload_n dX7_readAlp_83 rfl ?_
                                                                              refine tr_aload_n dX7_readAlp_84 rfl ?_
                                                                              refine tr_getR dX7_readAlp_85 fl7_22 (kR7 hS849.1 ta0) d26 ?_
                                                                              refine tr_getR dX7_readAlp_88 fl7_207 (kR2 hS849.1 ta25) d306 ?_
                                                                              refine q_alen dX7_readAlp_91 (kR18 hS849.1 ta305) (by decide) (by decide) (nR18 hS849.1 ta305) (by decide +kernel) ?_
                                                                              intro v864 h865
                                                                              refine q_icmp_ge 137 dX7_readAlp_92 (by decide) (fun h866 => ?_) (fun h866 => ?_)
                                                                              · skip
                                                                                refine q_iconst dX7_readAlp_137 (by decide) ?_
                                                                                intro v867 h868
                                                                                have eF := hF.eq
                                                                                have eP := hP.eq
                                                                                obtain ⟨v869, c870⟩ : ∃ v, I848 a0 16 = v := ⟨_, rfl⟩
                                                                                exact tr_zret hZ dX7_readAlp_138 rfl (ti_b01 (by exact om_f9079521 h868) (by exact om_e6632817 h868)) (by decide) (by decide) ⟨v867, rfl, rfl, rfl, rfl, rfl, hS849, hL808, (by exact om_d753bc65 h868), (fun dr hd => (Option.some.inj (d26.symm.trans hd)) ▸ hO861), (Or.inl ⟨(by first | done | with_reducible assumption | omega), (by (try rw [c855]); (try rw [c24]); first | done | with_reducible assumption | exact om_532e2e3a p52 p97 p162 p208 p275 p330 p404 p450 p524 p570 p644 p690 p764 p810), (by first | done | with_reducible assumption | omega), (fun q0 z0 => by obtain rfl := Option.some.inj ((d26).symm.trans z0); (try rw [c853]); first | done | with_reducible assumption | omega), (fun q0 z0 => by obtain rfl := Option.some.inj ((d26).symm.trans z0); (try rw [c854]); first | done | with_reducible assumption | omega), (by (try rw [c852]); first | done | with_reducible assumption | omega), (by (try rw [c857]); first | done | with_reducible assumption | omega), (by (try rw [c858]); first | done | with_reducible assumption | omega), (by (try rw [c859]); first | done | with_reducible assumption | omega), (by (try rw [c844]); first | done | assumption), (by (try rw [c860]); first | done | assumption), trivial⟩), trivial⟩
                                                                              · skip
                                                                                exfalso; exact om_d5b72a3d h304 h383 h503 h623 h743 h863 h865 h866
                                                                            · skip
                                                                              exfalso; exact om_3624102b p809 h847
                                                                          · skip
                                                                            obtain ⟨v871, c872⟩ : ∃ v, I795 a0 15 = v := ⟨_, rfl⟩
                                                                            rw [c872] at p822
                                                                            obtain ⟨v873, c874⟩ : ∃ v, I795 a0 16 = v := ⟨_, rfl⟩
                                                                            rw [c874] at p823
                                                                            replace hF := hF.pos (by exact om_73cc8e29 p821)
                                                                            replace hP := hP.pos (by exact om_73cc8e29 p821)
                                                                            refine q_if_ne 118 dX7_readAlp_113 (by decide) (fun h875 => ?_) (fun h875 => ?_)
                                                                            · skip
                                                                              exfalso; exact om_3a97d4a5 p820 h875
                                                                            · skip
                                                                              refine q_iconst dX7_readAlp_116 (by decide) ?_
                                                                              intro v876 h877
                                                                              have eF := hF.eq
                                                                              have eP := hP.eq
                                                                              obtain ⟨v878, c879⟩ : ∃ v, I795 a0 2 = v := ⟨_, rfl⟩
                                                                              have b880 := iv7_2 hS803.1 ta0 c879
                                                                              obtain ⟨v881, c882⟩ : ∃ v, I795 a0 4 = v := ⟨_, rfl⟩
                                                                              have b883 := iv7_4 hS803.1 ta0 c882
                                                                              obtain ⟨v884, c885⟩ : ∃ v, I795 a0 3 = v := ⟨_, rfl⟩
                                                                              have b886 := iv7_3 hS803.1 ta0 c885
                                                                              obtain ⟨y887, c888⟩ : ∃ v, L797 a0 5 = v := ⟨_, rfl⟩
                                                                              obtain ⟨v889, c890⟩ : ∃ v, I795 a0 6 = v := ⟨_, rfl⟩
                                                                              exact tr_zret hZ dX7_readAlp_117 rfl (ti_b01 (by exact om_d99fa9e4 h877) (by exact om_d3de7ec9 h877)) (by decide) (by decide) ⟨v876, rfl, rfl, rfl, rfl, rfl, hS803, hL808, (by exact om_3b50ecb9 h877), (fun dr hd => (Option.some.inj (d26.symm.trans hd)) ▸ hO807), (Or.inr (⟨(by first | done | with_reducible assumption | omega), (by first | done | with_reducible assumption | exact om_7fac24c5 eF), (by (try rw [c872]); first | done | with_reducible assumption | exact om_3345b898 p822 eF), (by (try rw [c874]); first | done | with_reducible assumption | exact om_2757374c p823 eP), trivial⟩)), trivial⟩
                                                                          · skip
                                                                            obtain ⟨v891, c892⟩ : ∃ v, I795 a0 15 = v := ⟨_, rfl⟩
                                                                            rw [c892] at p827
                                                                            obtain ⟨v893, c894⟩ : ∃ v, I795 a0 16 = v := ⟨_, rfl⟩
                                                                            rw [c894] at p828
                                                                            replace hF := hF.neg (by exact om_10ed11b5 p825)
                                                                            replace hP := hP.neg (by exact om_10ed11b5 p825)
                                                                            replace hF := hF.pos (by exact om_20030929 h792 h794 p826)
                                                                            replace hP := hP.pos (by exact om_20030929 h792 h794 p826)
                                                                            refine q_if_ne 118 dX7_readAlp_113 (by decide) (fun h895 => ?_) (fun h895 => ?_)
                                                                            · skip
                                                                              exfalso; exact om_3a97d4a5 p824 h895
                                                                            · skip
                                                                              refine q_iconst dX7_readAlp_116 (by decide) ?_
                                                                              intro v896 h897
                                                                              have eF := hF.eq
                                                                              have eP := hP.eq
                                                                              obtain ⟨v898, c899⟩ : ∃ v, I795 a0 2 = v := ⟨_, rfl⟩
                                                                              have b900 := iv7_2 hS803.1 ta0 c899
                                                                              obtain ⟨v901, c902⟩ : ∃ v, I795 a0 4 = v := ⟨_, rfl⟩
                                                                              have b903 := iv7_4 hS803.1 ta0 c902
                                                                              obtain ⟨v904, c905⟩ : ∃ v, I795 a0 3 = v := ⟨_, rfl⟩
                                                                              have b906 := iv7_3 hS803.1 ta0 c905
                                                                              obtain ⟨y907, c908⟩ : ∃ v, L797 a0 5 = v := ⟨_, rfl⟩
                                                                              obtain ⟨v909, c910⟩ : ∃ v, I795 a0 6 = v := ⟨_, rfl⟩
                                                                              exact tr_zret hZ dX7_readAlp_117 rfl (ti_b01 (by exact om_d99fa9e4 h897) (by exact om_d3de7ec9 h897)) (by decide) (by decide) ⟨v896, rfl, rfl, rfl, rfl, rfl, hS803, hL808, (by exact om_3b50ecb9 h897), (fun dr hd => (Option.some.inj (d26.symm.trans hd)) ▸ hO807), (Or.inr (⟨(by first | done | with_reducible assumption | omega), (by first | done | with_reducible assumption | exact om_7b84bd42 eF), (by (try rw [c892]); first | done | with_reducible assumption | exact om_46d5da87 p827 eF), (by (try rw [c894]); first | done | with_reducible assumption | exact om_2757374c p828 eP), trivial⟩)), trivial⟩
                                                                      · skip
                                                                        obtain ⟨v911, c912⟩ : ∃ v, I748 a0 15 = v := ⟨_, rfl⟩
                                                                        rw [c912] at p773
                                                                        obtain ⟨v913, c914⟩ : ∃ v, I748 a0 16 = v := ⟨_, rfl⟩
                                                                        rw [c914] at p774
                                                                        replace hF := hF.pos (by exact om_460028fa p772)
                                                                        replace hP := hP.pos (by exact om_460028fa p772)
                                                                        refine q_if_eq 116 dX7_readAlp_103 (by decide) (fun h915 => ?_) (fun h915 => ?_)
                                                                        · skip
                                                                          refine q_iconst dX7_readAlp_116 (by decide) ?_
                                                                          intro v916 h917
                                                                          have eF := hF.eq
                                                                          have eP := hP.eq
                                                                          obtain ⟨v918, c919⟩ : ∃ v, I748 a0 2 = v := ⟨_, rfl⟩
                                                                          have b920 := iv7_2 hS756.1 ta0 c919
                                                                          obtain ⟨v921, c922⟩ : ∃ v, I748 a0 4 = v := ⟨_, rfl⟩
                                                                          have b923 := iv7_4 hS756.1 ta0 c922
                                                                          obtain ⟨v924, c925⟩ : ∃ v, I748 a0 3 = v := ⟨_, rfl⟩
                                                                          have b926 := iv7_3 hS756.1 ta0 c925
                                                                          obtain ⟨y927, c928⟩ : ∃ v, L750 a0 5 = v := ⟨_, rfl⟩
                                                                          obtain ⟨v929, c930⟩ : ∃ v, I748 a0 6 = v := ⟨_, rfl⟩
                                                                          exact tr_zret hZ dX7_readAlp_117 rfl (ti_b01 (by exact om_d99fa9e4 h917) (by exact om_d3de7ec9 h917)) (by decide) (by decide) ⟨v916, rfl, rfl, rfl, rfl, rfl, hS756, hL762, (by exact om_3b50ecb9 h917), (fun dr hd => (Option.some.inj (d26.symm.trans hd)) ▸ hO761), (Or.inr (⟨(by first | done | with_reducible assumption | omega), (by first | done | with_reducible assumption | exact om_7fac24c5 eF), (by (try rw [c912]); first | done | with_reducible assumption | exact om_3345b898 p773 eF), (by (try rw [c914]); first | done | with_reducible assumption | exact om_2757374c p774 eP), trivial⟩)), trivial⟩
                                                                        · skip
                                                                          exfalso; exact om_3a97d4a5 p771 h915
                                                                · skip
                                                                  exfalso; exact om_3624102b p689 h727
                                                              · skip
                                                                obtain ⟨v931, c932⟩ : ∃ v, I675 a0 15 = v := ⟨_, rfl⟩
                                                                rw [c932] at p702
                                                                obtain ⟨v933, c934⟩ : ∃ v, I675 a0 16 = v := ⟨_, rfl⟩
                                                                rw [c934] at p703
                                                                replace hF := hF.pos (by exact om_73cc8e29 p701)
                                                                replace hP := hP.pos (by exact om_73cc8e29 p701)
                                                                refine q_if_ne 118 dX7_readAlp_113 (by decide) (fun h935 => ?_) (fun h935 => ?_)
                                                                · skip
                                                                  exfalso; exact om_3a97d4a5 p700 h935
                                                                · skip
                                                                  refine q_iconst dX7_readAlp_116 (by decide) ?_
                                                                  intro v936 h937
                                                                  have eF := hF.eq
                                                                  have eP := hP.eq
                                                                  obtain ⟨v938, c939⟩ : ∃ v, I675 a0 2 = v := ⟨_, rfl⟩
                                                                  have b940 := iv7_2 hS683.1 ta0 c939
                                                                  obtain ⟨v941, c942⟩ : ∃ v, I675 a0 4 = v := ⟨_, rfl⟩
                                                                  have b943 := iv7_4 hS683.1 ta0 c942
                                                                  obtain ⟨v944, c945⟩ : ∃ v, I675 a0 3 = v := ⟨_, rfl⟩
                                                                  have b946 := iv7_3 hS683.1 ta0 c945
                                                                  obtain ⟨y947, c948⟩ : ∃ v, L677 a0 5 = v := ⟨_, rfl⟩
                                                                  obtain ⟨v949, c950⟩ : ∃ v, I675 a0 6 = v := ⟨_, rfl⟩
                                                                  exact tr_zret hZ dX7_readAlp_117 rfl (ti_b01 (by exact om_d99fa9e4 h937) (by exact om_d3de7ec9 h937)) (by decide) (by decide) ⟨v936, rfl, rfl, rfl, rfl, rfl, hS683, hL688, (by exact om_3b50ecb9 h937), (fun dr hd => (Option.some.inj (d26.symm.trans hd)) ▸ hO687), (Or.inr (⟨(by first | done | with_reducible assumption | omega), (by first | done | with_reducible assumption | exact om_7fac24c5 eF), (by (try rw [c932]); first | done | with_reducible assumption | exact om_3345b898 p702 eF), (by (try rw [c934]); first | done | with_reducible assumption | exact om_2757374c p703 eP), trivial⟩)), trivial⟩
                                                              · skip
                                                                obtain ⟨v951, c952⟩ : ∃ v, I675 a0 15 = v := ⟨_, rfl⟩
                                                                rw [c952] at p707
                                                                obtain ⟨v953, c954⟩ : ∃ v, I675 a0 16 = v := ⟨_, rfl⟩
                                                                rw [c954] at p708
                                                                replace hF := hF.neg (by exact om_10ed11b5 p705)
                                                                replace hP := hP.neg (by exact om_10ed11b5 p705)
                                                                replace hF := hF.pos (by exact om_20030929 h672 h674 p706)
                                                                replace hP := hP.pos (by exact om_20030929 h672 h674 p706)
                                                                refine q_if_ne 118 dX7_readAlp_113 (by decide) (fun h955 => ?_) (fun h955 => ?_)
                                                                · skip
                                                                  exfalso; exact om_3a97d4a5 p704 h955
                                                                · skip
                                                                  refine q_iconst dX7_readAlp_116 (by decide) ?_
                                                                  intro v956 h957
                                                                  have eF := hF.eq
                                                                  have eP := hP.eq
                                                                  obtain ⟨v958, c959⟩ : ∃ v, I675 a0 2 = v := ⟨_, rfl⟩
                                                                  have b960 := iv7_2 hS683.1 ta0 c959
                                                                  obtain ⟨v961, c962⟩ : ∃ v, I675 a0 4 = v := ⟨_, rfl⟩
                                                                  have b963 := iv7_4 hS683.1 ta0 c962
                                                                  obtain ⟨v964, c965⟩ : ∃ v, I675 a0 3 = v := ⟨_, rfl⟩
                                                                  have b966 := iv7_3 hS683.1 ta0 c965
                                                                  obtain ⟨y967, c968⟩ : ∃ v, L677 a0 5 = v := ⟨_, rfl⟩
                                                                  obtain ⟨v969, c970⟩ : ∃ v, I675 a0 6 = v := ⟨_, rfl⟩
                                                                  exact tr_zret hZ dX7_readAlp_117 rfl (ti_b01 (by exact om_d99fa9e4 h957) (by exact om_d3de7ec9 h957)) (by decide) (by decide) ⟨v956, rfl, rfl, rfl, rfl, rfl, hS683, hL688, (by exact om_3b50ecb9 h957), (fun dr hd => (Option.some.inj (d26.symm.trans hd)) ▸ hO687), (Or.inr (⟨(by first | done | with_reducible assumption | omega), (by first | done | with_reducible assumption | exact om_7b84bd42 eF), (by (try rw [c952]); first | done | with_reducible assumption | exact om_46d5da87 p707 eF), (by (try rw [c954]); first | done | with_reducible assumption | exact om_2757374c p708 eP), trivial⟩)), trivial⟩
                                                          · skip
                                                            obtain ⟨v971, c972⟩ : ∃ v, I628 a0 15 = v := ⟨_, rfl⟩
                                                            rw [c972] at p653
                                                            obtain ⟨v973, c974⟩ : ∃ v, I628 a0 16 = v := ⟨_, rfl⟩
                                                            rw [c974] at p654
                                                            replace hF := hF.pos (by exact om_460028fa p652)
                                                            replace hP := hP.pos (by exact om_460028fa p652)
                                                            refine q_if_eq 116 dX7_readAlp_103 (by decide) (fun h975 => ?_) (fun h975 => ?_)
                                                            · skip
                                                              refine q_iconst dX7_readAlp_116 (by decide) ?_
                                                              intro v976 h977
                                                              have eF := hF.eq
                                                              have eP := hP.eq
                                                              obtain ⟨v978, c979⟩ : ∃ v, I628 a0 2 = v := ⟨_, rfl⟩
                                                              have b980 := iv7_2 hS636.1 ta0 c979
                                                              obtain ⟨v981, c982⟩ : ∃ v, I628 a0 4 = v := ⟨_, rfl⟩
                                                              have b983 := iv7_4 hS636.1 ta0 c982
                                                              obtain ⟨v984, c985⟩ : ∃ v, I628 a0 3 = v := ⟨_, rfl⟩
                                                              have b986 := iv7_3 hS636.1 ta0 c985
                                                              obtain ⟨y987, c988⟩ : ∃ v, L630 a0 5 = v := ⟨_, rfl⟩
                                                              obtain ⟨v989, c990⟩ : ∃ v, I628 a0 6 = v := ⟨_, rfl⟩
                                                              exact tr_zret hZ dX7_readAlp_117 rfl (ti_b01 (by exact om_d99fa9e4 h977) (by exact om_d3de7ec9 h977)) (by decide) (by decide) ⟨v976, rfl, rfl, rfl, rfl, rfl, hS636, hL642, (by exact om_3b50ecb9 h977), (fun dr hd => (Option.some.inj (d26.symm.trans hd)) ▸ hO641), (Or.inr (⟨(by first | done | with_reducible assumption | omega), (by first | done | with_reducible assumption | exact om_7fac24c5 eF), (by (try rw [c972]); first | done | with_reducible assumption | exact om_3345b898 p653 eF), (by (try rw [c974]); first | done | with_reducible assumption | exact om_2757374c p654 eP), trivial⟩)), trivial⟩
                                                            · skip
                                                              exfalso; exact om_3a97d4a5 p651 h975
                                                    · skip
                                                      exfalso; exact om_3624102b p569 h607
                                                  · skip
                                                    obtain ⟨v991, c992⟩ : ∃ v, I555 a0 15 = v := ⟨_, rfl⟩
                                                    rw [c992] at p582
                                                    obtain ⟨v993, c994⟩ : ∃ v, I555 a0 16 = v := ⟨_, rfl⟩
                                                    rw [c994] at p583
                                                    replace hF := hF.pos (by exact om_73cc8e29 p581)
                                                    replace hP := hP.pos (by exact om_73cc8e29 p581)
                                                    refine q_if_ne 118 dX7_readAlp_113 (by decide) (fun h995 => ?_) (fun h995 => ?_)
                                                    · skip
                                                      exfalso; exact om_3a97d4a5 p580 h995
                                                    · skip
                                                      refine q_iconst dX7_readAlp_116 (by decide) ?_
                                                      intro v996 h997
                                                      have eF := hF.eq
                                                      have eP := hP.eq
                                                      obtain ⟨v998, c999⟩ : ∃ v, I555 a0 2 = v := ⟨_, rfl⟩
                                                      have b1000 := iv7_2 hS563.1 ta0 c999
                                                      obtain ⟨v1001, c1002⟩ : ∃ v, I555 a0 4 = v := ⟨_, rfl⟩
                                                      have b1003 := iv7_4 hS563.1 ta0 c1002
                                                      obtain ⟨v1004, c1005⟩ : ∃ v, I555 a0 3 = v := ⟨_, rfl⟩
                                                      have b1006 := iv7_3 hS563.1 ta0 c1005
                                                      obtain ⟨y1007, c1008⟩ : ∃ v, L557 a0 5 = v := ⟨_, rfl⟩
                                                      obtain ⟨v1009, c1010⟩ : ∃ v, I555 a0 6 = v := ⟨_, rfl⟩
                                                      exact tr_zret hZ dX7_readAlp_117 rfl (ti_b01 (by exact om_d99fa9e4 h997) (by exact om_d3de7ec9 h997)) (by decide) (by decide) ⟨v996, rfl, rfl, rfl, rfl, rfl, hS563, hL568, (by exact om_3b50ecb9 h997), (fun dr hd => (Option.some.inj (d26.symm.trans hd)) ▸ hO567), (Or.inr (⟨(by first | done | with_reducible assumption | omega), (by first | done | with_reducible assumption | exact om_7fac24c5 eF), (by (try rw [c992]); first | done | with_reducible assumption | exact om_3345b898 p582 eF), (by (try rw [c994]); first | done | with_reducible assumption | exact om_2757374c p583 eP), trivial⟩)), trivial⟩
                                                  · skip
                                                    obtain ⟨v1011, c1012⟩ : ∃ v, I555 a0 15 = v := ⟨_, rfl⟩
                                                    rw [c1012] at p587
                                                    obtain ⟨v1013, c1014⟩ : ∃ v, I555 a0 16 = v := ⟨_, rfl⟩
                                                    rw [c1014] at p588
                                                    replace hF := hF.neg (by exact om_10ed11b5 p585)
                                                    replace hP := hP.neg (by exact om_10ed11b5 p585)
                                                    replace hF := hF.pos (by exact om_20030929 h552 h554 p586)
                                                    replace hP := hP.pos (by exact om_20030929 h552 h554 p586)
                                                    refine q_if_ne 118 dX7_readAlp_113 (by decide) (fun h1015 => ?_) (fun h1015 => ?_)
                                                    · skip
                                                      exfalso; exact om_3a97d4a5 p584 h1015
                                                    · skip
                                                      refine q_iconst dX7_readAlp_116 (by decide) ?_
                                                      intro v1016 h1017
                                                      have eF := hF.eq
                                                      have eP := hP.eq
                                                      obtain ⟨v1018, c1019⟩ : ∃ v, I555 a0 2 = v := ⟨_, rfl⟩
                                                      have b1020 := iv7_2 hS563.1 ta0 c1019
                                                      obtain ⟨v1021, c1022⟩ : ∃ v, I555 a0 4 = v := ⟨_, rfl⟩
                                                      have b1023 := iv7_4 hS563.1 ta0 c1022
                                                      obtain ⟨v1024, c1025⟩ : ∃ v, I555 a0 3 = v := ⟨_, rfl⟩
                                                      have b1026 := iv7_3 hS563.1 ta0 c1025
                                                      obtain ⟨y1027, c1028⟩ : ∃ v, L557 a0 5 = v := ⟨_, rfl⟩
                                                      obtain ⟨v1029, c1030⟩ : ∃ v, I555 a0 6 = v := ⟨_, rfl⟩
                                                      exact tr_zret hZ dX7_readAlp_117 rfl (ti_b01 (by exact om_d99fa9e4 h1017) (by exact om_d3de7ec9 h1017)) (by decide) (by decide) ⟨v1016, rfl, rfl, rfl, rfl, rfl, hS563, hL568, (by exact om_3b50ecb9 h1017), (fun dr hd => (Option.some.inj (d26.symm.trans hd)) ▸ hO567), (Or.inr (⟨(by first | done | with_reducible assumption | omega), (by first | done | with_reducible assumption | exact om_7b84bd42 eF), (by (try rw [c1012]); first | done | with_reducible assumption | exact om_46d5da87 p587 eF), (by (try rw [c1014]); first | done | with_reducible assumption | exact om_2757374c p588 eP), trivial⟩)), trivial⟩
                                              · skip
                                                obtain ⟨v1031, c1032⟩ : ∃ v, I508 a0 15 = v := ⟨_, rfl⟩
                                                rw [c1032] at p533
                                                obtain ⟨v1033, c1034⟩ : ∃ v, I508 a0 16 = v := ⟨_, rfl⟩
                                                rw [c1034] at p534
                                                replace hF := hF.pos (by exact om_460028fa p532)
                                                replace hP := hP.pos (by exact om_460028fa p532)
                                                refine q_if_eq 116 dX7_readAlp_103 (by decide) (fun h1035 => ?_) (fun h1035 => ?_)
                                                · skip
                                                  refine q_iconst dX7_readAlp_116 (by decide) ?_
                                                  intro v1036 h1037
                                                  have eF := hF.eq
                                                  have eP := hP.eq
                                                  obtain ⟨v1038, c1039⟩ : ∃ v, I508 a0 2 = v := ⟨_, rfl⟩
                                                  have b1040 := iv7_2 hS516.1 ta0 c1039
                                                  obtain ⟨v1041, c1042⟩ : ∃ v, I508 a0 4 = v := ⟨_, rfl⟩
                                                  have b1043 := iv7_4 hS516.1 ta0 c1042
                                                  obtain ⟨v1044, c1045⟩ : ∃ v, I508 a0 3 = v := ⟨_, rfl⟩
                                                  have b1046 := iv7_3 hS516.1 ta0 c1045
                                                  obtain ⟨y1047, c1048⟩ : ∃ v, L510 a0 5 = v := ⟨_, rfl⟩
                                                  obtain ⟨v1049, c1050⟩ : ∃ v, I508 a0 6 = v := ⟨_, rfl⟩
                                                  exact tr_zret hZ dX7_readAlp_117 rfl (ti_b01 (by exact om_d99fa9e4 h1037) (by exact om_d3de7ec9 h1037)) (by decide) (by decide) ⟨v1036, rfl, rfl, rfl, rfl, rfl, hS516, hL522, (by exact om_3b50ecb9 h1037), (fun dr hd => (Option.some.inj (d26.symm.trans hd)) ▸ hO521), (Or.inr (⟨(by first | done | with_reducible assumption | omega), (by first | done | with_reducible assumption | exact om_7fac24c5 eF), (by (try rw [c1032]); first | done | with_reducible assumption | exact om_3345b898 p533 eF), (by (try rw [c1034]); first | done | with_reducible assumption | exact om_2757374c p534 eP), trivial⟩)), trivial⟩
                                                · skip
                                                  exfalso; exact om_3a97d4a5 p531 h1035
                                        · skip
                                          exfalso; exact om_3624102b p449 h487
                                      · skip
                                        obtain ⟨v1051, c1052⟩ : ∃ v, I435 a0 15 = v := ⟨_, rfl⟩
                                        rw [c1052] at p462
                                        obtain ⟨v1053, c1054⟩ : ∃ v, I435 a0 16 = v := ⟨_, rfl⟩
                                        rw [c1054] at p463
                                        replace hF := hF.pos (by exact om_73cc8e29 p461)
                                        replace hP := hP.pos (by exact om_73cc8e29 p461)
                                        refine q_if_ne 118 dX7_readAlp_113 (by decide) (fun h1055 => ?_) (fun h1055 => ?_)
                                        · skip
                                          exfalso; exact om_3a97d4a5 p460 h1055
                                        · skip
                                          refine q_iconst dX7_readAlp_116 (by decide) ?_
                                          intro v1056 h1057
                                          have eF := hF.eq
                                          have eP := hP.eq
                                          obtain ⟨v1058, c1059⟩ : ∃ v, I435 a0 2 = v := ⟨_, rfl⟩
                                          have b1060 := iv7_2 hS443.1 ta0 c1059
                                          obtain ⟨v1061, c1062⟩ : ∃ v, I435 a0 4 = v := ⟨_, rfl⟩
                                          have b1063 := iv7_4 hS443.1 ta0 c1062
                                          obtain ⟨v1064, c1065⟩ : ∃ v, I435 a0 3 = v := ⟨_, rfl⟩
                                          have b1066 := iv7_3 hS443.1 ta0 c1065
                                          obtain ⟨y1067, c1068⟩ : ∃ v, L437 a0 5 = v := ⟨_, rfl⟩
                                          obtain ⟨v1069, c1070⟩ : ∃ v, I435 a0 6 = v := ⟨_, rfl⟩
                                          exact tr_zret hZ dX7_readAlp_117 rfl (ti_b01 (by exact om_d99fa9e4 h1057) (by exact om_d3de7ec9 h1057)) (by decide) (by decide) ⟨v1056, rfl, rfl, rfl, rfl, rfl, hS443, hL448, (by exact om_3b50ecb9 h1057), (fun dr hd => (Option.some.inj (d26.symm.trans hd)) ▸ hO447), (Or.inr (⟨(by first | done | with_reducible assumption | omega), (by first | done | with_reducible assumption | exact om_7fac24c5 eF), (by (try rw [c1052]); first | done | with_reducible assumption | exact om_3345b898 p462 eF), (by (try rw [c1054]); first | done | with_reducible assumption | exact om_2757374c p463 eP), trivial⟩)), trivial⟩
                                      · skip
                                        obtain ⟨v1071, c1072⟩ : ∃ v, I435 a0 15 = v := ⟨_, rfl⟩
                                        rw [c1072] at p467
                                        obtain ⟨v1073, c1074⟩ : ∃ v, I435 a0 16 = v := ⟨_, rfl⟩
                                        rw [c1074] at p468
                                        replace hF := hF.neg (by exact om_10ed11b5 p465)
                                        replace hP := hP.neg (by exact om_10ed11b5 p465)
                                        replace hF := hF.pos (by exact om_20030929 h432 h434 p466)
                                        replace hP := hP.pos (by exact om_20030929 h432 h434 p466)
                                        refine q_if_ne 118 dX7_readAlp_113 (by decide) (fun h1075 => ?_) (fun h1075 => ?_)
                                        · skip
                                          exfalso; exact om_3a97d4a5 p464 h1075
                                        · skip
                                          refine q_iconst dX7_readAlp_116 (by decide) ?_
                                          intro v1076 h1077
                                          have eF := hF.eq
                                          have eP := hP.eq
                                          obtain ⟨v1078, c1079⟩ : ∃ v, I435 a0 2 = v := ⟨_, rfl⟩
                                          have b1080 := iv7_2 hS443.1 ta0 c1079
                                          obtain ⟨v1081, c1082⟩ : ∃ v, I435 a0 4 = v := ⟨_, rfl⟩
                                          have b1083 := iv7_4 hS443.1 ta0 c1082
                                          obtain ⟨v1084, c1085⟩ : ∃ v, I435 a0 3 = v := ⟨_, rfl⟩
                                          have b1086 := iv7_3 hS443.1 ta0 c1085
                                          obtain ⟨y1087, c1088⟩ : ∃ v, L437 a0 5 = v := ⟨_, rfl⟩
                                          obtain ⟨v1089, c1090⟩ : ∃ v, I435 a0 6 = v := ⟨_, rfl⟩
                                          exact tr_zret hZ dX7_readAlp_117 rfl (ti_b01 (by exact om_d99fa9e4 h1077) (by exact om_d3de7ec9 h1077)) (by decide) (by decide) ⟨v1076, rfl, rfl, rfl, rfl, rfl, hS443, hL448, (by exact om_3b50ecb9 h1077), (fun dr hd => (Option.some.inj (d26.symm.trans hd)) ▸ hO447), (Or.inr (⟨(by first | done | with_reducible assumption | omega), (by first | done | with_reducible assumption | exact om_7b84bd42 eF), (by (try rw [c1072]); first | done | with_reducible assumption | exact om_46d5da87 p467 eF), (by (try rw [c1074]); first | done | with_reducible assumption | exact om_2757374c p468 eP), trivial⟩)), trivial⟩
                                  · skip
                                    obtain ⟨v1091, c1092⟩ : ∃ v, I388 a0 15 = v := ⟨_, rfl⟩
                                    rw [c1092] at p413
                                    obtain ⟨v1093, c1094⟩ : ∃ v, I388 a0 16 = v := ⟨_, rfl⟩
                                    rw [c1094] at p414
                                    replace hF := hF.pos (by exact om_460028fa p412)
                                    replace hP := hP.pos (by exact om_460028fa p412)
                                    refine q_if_eq 116 dX7_readAlp_103 (by decide) (fun h1095 => ?_) (fun h1095 => ?_)
                                    · skip
                                      refine q_iconst dX7_readAlp_116 (by decide) ?_
                                      intro v1096 h1097
                                      have eF := hF.eq
                                      have eP := hP.eq
                                      obtain ⟨v1098, c1099⟩ : ∃ v, I388 a0 2 = v := ⟨_, rfl⟩
                                      have b1100 := iv7_2 hS396.1 ta0 c1099
                                      obtain ⟨v1101, c1102⟩ : ∃ v, I388 a0 4 = v := ⟨_, rfl⟩
                                      have b1103 := iv7_4 hS396.1 ta0 c1102
                                      obtain ⟨v1104, c1105⟩ : ∃ v, I388 a0 3 = v := ⟨_, rfl⟩
                                      have b1106 := iv7_3 hS396.1 ta0 c1105
                                      obtain ⟨y1107, c1108⟩ : ∃ v, L390 a0 5 = v := ⟨_, rfl⟩
                                      obtain ⟨v1109, c1110⟩ : ∃ v, I388 a0 6 = v := ⟨_, rfl⟩
                                      exact tr_zret hZ dX7_readAlp_117 rfl (ti_b01 (by exact om_d99fa9e4 h1097) (by exact om_d3de7ec9 h1097)) (by decide) (by decide) ⟨v1096, rfl, rfl, rfl, rfl, rfl, hS396, hL402, (by exact om_3b50ecb9 h1097), (fun dr hd => (Option.some.inj (d26.symm.trans hd)) ▸ hO401), (Or.inr (⟨(by first | done | with_reducible assumption | omega), (by first | done | with_reducible assumption | exact om_7fac24c5 eF), (by (try rw [c1092]); first | done | with_reducible assumption | exact om_3345b898 p413 eF), (by (try rw [c1094]); first | done | with_reducible assumption | exact om_2757374c p414 eP), trivial⟩)), trivial⟩
                                    · skip
                                      exfalso; exact om_3a97d4a5 p411 h1095
                            · skip
                              exfalso; exact om_3624102b p329 h367
                          · skip
                            obtain ⟨v1111, c1112⟩ : ∃ v, I315 a0 15 = v := ⟨_, rfl⟩
                            rw [c1112] at p342
                            obtain ⟨v1113, c1114⟩ : ∃ v, I315 a0 16 = v := ⟨_, rfl⟩
                            rw [c1114] at p343
                            replace hF := hF.pos (by exact om_73cc8e29 p341)
                            replace hP := hP.pos (by exact om_73cc8e29 p341)
                            refine q_if_ne 118 dX7_readAlp_113 (by decide) (fun h1115 => ?_) (fun h1115 => ?_)
                            · skip
                              exfalso; exact om_3a97d4a5 p340 h1115
                            · skip
                              refine q_iconst dX7_readAlp_116 (by decide) ?_
                              intro v1116 h1117
                              have eF := hF.eq
                              have eP := hP.eq
                              obtain ⟨v1118, c1119⟩ : ∃ v, I315 a0 2 = v := ⟨_, rfl⟩
                              have b1120 := iv7_2 hS323.1 ta0 c1119
                              obtain ⟨v1121, c1122⟩ : ∃ v, I315 a0 4 = v := ⟨_, rfl⟩
                              have b1123 := iv7_4 hS323.1 ta0 c1122
                              obtain ⟨v1124, c1125⟩ : ∃ v, I315 a0 3 = v := ⟨_, rfl⟩
                              have b1126 := iv7_3 hS323.1 ta0 c1125
                              obtain ⟨y1127, c1128⟩ : ∃ v, L317 a0 5 = v := ⟨_, rfl⟩
                              obtain ⟨v1129, c1130⟩ : ∃ v, I315 a0 6 = v := ⟨_, rfl⟩
                              exact tr_zret hZ dX7_readAlp_117 rfl (ti_b01 (by exact om_d99fa9e4 h1117) (by exact om_d3de7ec9 h1117)) (by decide) (by decide) ⟨v1116, rfl, rfl, rfl, rfl, rfl, hS323, hL328, (by exact om_3b50ecb9 h1117), (fun dr hd => (Option.some.inj (d26.symm.trans hd)) ▸ hO327), (Or.inr (⟨(by first | done | with_reducible assumption | omega), (by first | done | with_reducible assumption | exact om_7fac24c5 eF), (by (try rw [c1112]); first | done | with_reducible assumption | exact om_3345b898 p342 eF), (by (try rw [c1114]); first | done | with_reducible assumption | exact om_2757374c p343 eP), trivial⟩)), trivial⟩
                          · skip
                            obtain ⟨v1131, c1132⟩ : ∃ v, I315 a0 15 = v := ⟨_, rfl⟩
                            rw [c1132] at p347
                            obtain ⟨v1133, c1134⟩ : ∃ v, I315 a0 16 = v := ⟨_, rfl⟩
                            rw [c1134] at p348
                            replace hF := hF.neg (by exact om_10ed11b5 p345)
                            replace hP := hP.neg (by exact om_10ed11b5 p345)
                            replace hF := hF.pos (by exact om_20030929 h312 h314 p346)
                            replace hP := hP.pos (by exact om_20030929 h312 h314 p346)
                            refine q_if_ne 118 dX7_readAlp_113 (by decide) (fun h1135 => ?_) (fun h1135 => ?_)
                            · skip
                              exfalso; exact om_3a97d4a5 p344 h1135
                            · skip
                              refine q_iconst dX7_readAlp_116 (by decide) ?_
                              intro v1136 h1137
                              have eF := hF.eq
                              have eP := hP.eq
                              obtain ⟨v1138, c1139⟩ : ∃ v, I315 a0 2 = v := ⟨_, rfl⟩
                              have b1140 := iv7_2 hS323.1 ta0 c1139
                              obtain ⟨v1141, c1142⟩ : ∃ v, I315 a0 4 = v := ⟨_, rfl⟩
                              have b1143 := iv7_4 hS323.1 ta0 c1142
                              obtain ⟨v1144, c1145⟩ : ∃ v, I315 a0 3 = v := ⟨_, rfl⟩
                              have b1146 := iv7_3 hS323.1 ta0 c1145
                              obtain ⟨y1147, c1148⟩ : ∃ v, L317 a0 5 = v := ⟨_, rfl⟩
                              obtain ⟨v1149, c1150⟩ : ∃ v, I315 a0 6 = v := ⟨_, rfl⟩
                              exact tr_zret hZ dX7_readAlp_117 rfl (ti_b01 (by exact om_d99fa9e4 h1137) (by exact om_d3de7ec9 h1137)) (by decide) (by decide) ⟨v1136, rfl, rfl, rfl, rfl, rfl, hS323, hL328, (by exact om_3b50ecb9 h1137), (fun dr hd => (Option.some.inj (d26.symm.trans hd)) ▸ hO327), (Or.inr (⟨(by first | done | with_reducible assumption | omega), (by first | done | with_reducible assumption | exact om_7b84bd42 eF), (by (try rw [c1132]); first | done | with_reducible assumption | exact om_46d5da87 p347 eF), (by (try rw [c1134]); first | done | with_reducible assumption | exact om_2757374c p348 eP), trivial⟩)), trivial⟩
                        · skip
                          exfalso; exact om_682e6e2d h304 h310
                    · skip
                      exfalso; exact om_3624102b p274 h302
                  · skip
                    obtain ⟨v1151, c1152⟩ : ∃ v, I259 a0 15 = v := ⟨_, rfl⟩
                    rw [c1152] at p285
                    obtain ⟨v1153, c1154⟩ : ∃ v, I259 a0 16 = v := ⟨_, rfl⟩
                    rw [c1154] at p286
                    replace hF := hF.pos (by exact om_9d03cfe3 p284)
                    replace hP := hP.pos (by exact om_9d03cfe3 p284)
                    refine q_if_ne 81 dX7_readAlp_76 (by decide) (fun h1155 => ?_) (fun h1155 => ?_)
                    · skip
                      exfalso; exact om_3a97d4a5 p283 h1155
                    · skip
                      refine q_iconst dX7_readAlp_79 (by decide) ?_
                      intro v1156 h1157
                      have eF := hF.eq
                      have eP := hP.eq
                      obtain ⟨v1158, c1159⟩ : ∃ v, I259 a0 2 = v := ⟨_, rfl⟩
                      have b1160 := iv7_2 hS267.1 ta0 c1159
                      obtain ⟨v1161, c1162⟩ : ∃ v, I259 a0 4 = v := ⟨_, rfl⟩
                      have b1163 := iv7_4 hS267.1 ta0 c1162
                      obtain ⟨v1164, c1165⟩ : ∃ v, I259 a0 3 = v := ⟨_, rfl⟩
                      have b1166 := iv7_3 hS267.1 ta0 c1165
                      obtain ⟨y1167, c1168⟩ : ∃ v, L261 a0 5 = v := ⟨_, rfl⟩
                      obtain ⟨v1169, c1170⟩ : ∃ v, I259 a0 6 = v := ⟨_, rfl⟩
                      exact tr_zret hZ dX7_readAlp_80 rfl (ti_b01 (by exact om_d99fa9e4 h1157) (by exact om_d3de7ec9 h1157)) (by decide) (by decide) ⟨v1156, rfl, rfl, rfl, rfl, rfl, hS267, hL273, (by exact om_3b50ecb9 h1157), (fun dr hd => (Option.some.inj (d26.symm.trans hd)) ▸ hO272), (Or.inr (⟨(by first | done | with_reducible assumption | omega), (by first | done | with_reducible assumption | exact om_7fac24c5 eF), (by (try rw [c1152]); first | done | with_reducible assumption | exact om_3345b898 p285 eF), (by (try rw [c1154]); first | done | with_reducible assumption | exact om_2757374c p286 eP), trivial⟩)), trivial⟩
                · skip
                  exfalso; exact om_3624102b p207 h245
              · skip
                obtain ⟨v1171, c1172⟩ : ∃ v, I194 a0 15 = v := ⟨_, rfl⟩
                rw [c1172] at p220
                obtain ⟨v1173, c1174⟩ : ∃ v, I194 a0 16 = v := ⟨_, rfl⟩
                rw [c1174] at p221
                replace hF := hF.pos (by exact om_73cc8e29 p219)
                replace hP := hP.pos (by exact om_73cc8e29 p219)
                refine q_if_ne 59 dX7_readAlp_54 (by decide) (fun h1175 => ?_) (fun h1175 => ?_)
                · skip
                  exfalso; exact om_3a97d4a5 p218 h1175
                · skip
                  refine q_iconst dX7_readAlp_57 (by decide) ?_
                  intro v1176 h1177
                  have eF := hF.eq
                  have eP := hP.eq
                  obtain ⟨v1178, c1179⟩ : ∃ v, I194 a25 1 = v := ⟨_, rfl⟩
                  have b1180 := iv2_1 hS202.1 ta25 c1179
                  obtain ⟨v1181, c1182⟩ : ∃ v, I194 a0 2 = v := ⟨_, rfl⟩
                  have b1183 := iv7_2 hS202.1 ta0 c1182
                  obtain ⟨v1184, c1185⟩ : ∃ v, I194 a0 4 = v := ⟨_, rfl⟩
                  have b1186 := iv7_4 hS202.1 ta0 c1185
                  obtain ⟨v1187, c1188⟩ : ∃ v, I194 a0 3 = v := ⟨_, rfl⟩
                  have b1189 := iv7_3 hS202.1 ta0 c1188
                  obtain ⟨y1190, c1191⟩ : ∃ v, L196 a0 5 = v := ⟨_, rfl⟩
                  obtain ⟨v1192, c1193⟩ : ∃ v, I194 a0 6 = v := ⟨_, rfl⟩
                  exact tr_zret hZ dX7_readAlp_58 rfl (ti_b01 (by exact om_d99fa9e4 h1177) (by exact om_d3de7ec9 h1177)) (by decide) (by decide) ⟨v1176, rfl, rfl, rfl, rfl, rfl, hS202, hL206, (by exact om_3b50ecb9 h1177), (fun dr hd => (Option.some.inj (d26.symm.trans hd)) ▸ hO205), (Or.inr (⟨(by first | done | with_reducible assumption | omega), (by first | done | with_reducible assumption | exact om_7fac24c5 eF), (by (try rw [c1172]); first | done | with_reducible assumption | exact om_3345b898 p220 eF), (by (try rw [c1174]); first | done | with_reducible assumption | exact om_2757374c p221 eP), trivial⟩)), trivial⟩
              · skip
                obtain ⟨v1194, c1195⟩ : ∃ v, I194 a0 15 = v := ⟨_, rfl⟩
                rw [c1195] at p225
                obtain ⟨v1196, c1197⟩ : ∃ v, I194 a0 16 = v := ⟨_, rfl⟩
                rw [c1197] at p226
                replace hF := hF.neg (by exact om_10ed11b5 p223)
                replace hP := hP.neg (by exact om_10ed11b5 p223)
                replace hF := hF.pos (by exact om_f9d1e603 h191 h193 p224)
                replace hP := hP.pos (by exact om_f9d1e603 h191 h193 p224)
                refine q_if_ne 59 dX7_readAlp_54 (by decide) (fun h1198 => ?_) (fun h1198 => ?_)
                · skip
                  exfalso; exact om_3a97d4a5 p222 h1198
                · skip
                  refine q_iconst dX7_readAlp_57 (by decide) ?_
                  intro v1199 h1200
                  have eF := hF.eq
                  have eP := hP.eq
                  obtain ⟨v1201, c1202⟩ : ∃ v, I194 a25 1 = v := ⟨_, rfl⟩
                  have b1203 := iv2_1 hS202.1 ta25 c1202
                  obtain ⟨v1204, c1205⟩ : ∃ v, I194 a0 2 = v := ⟨_, rfl⟩
                  have b1206 := iv7_2 hS202.1 ta0 c1205
                  obtain ⟨v1207, c1208⟩ : ∃ v, I194 a0 4 = v := ⟨_, rfl⟩
                  have b1209 := iv7_4 hS202.1 ta0 c1208
                  obtain ⟨v1210, c1211⟩ : ∃ v, I194 a0 3 = v := ⟨_, rfl⟩
                  have b1212 := iv7_3 hS202.1 ta0 c1211
                  obtain ⟨y1213, c1214⟩ : ∃ v, L196 a0 5 = v := ⟨_, rfl⟩
                  obtain ⟨v1215, c1216⟩ : ∃ v, I194 a0 6 = v := ⟨_, rfl⟩
                  exact tr_zret hZ dX7_readAlp_58 rfl (ti_b01 (by exact om_d99fa9e4 h1200) (by exact om_d3de7ec9 h1200)) (by decide) (by decide) ⟨v1199, rfl, rfl, rfl, rfl, rfl, hS202, hL206, (by exact om_3b50ecb9 h1200), (fun dr hd => (Option.some.inj (d26.symm.trans hd)) ▸ hO205), (Or.inr (⟨(by first | done | with_reducible assumption | omega), (by first | done | with_reducible assumption | exact om_7b84bd42 eF), (by (try rw [c1195]); first | done | with_reducible assumption | exact om_46d5da87 p225 eF), (by (try rw [c1197]); first | done | with_reducible assumption | exact om_2757374c p226 eP), trivial⟩)), trivial⟩
          · skip
            obtain ⟨v1217, c1218⟩ : ∃ v, I147 a0 15 = v := ⟨_, rfl⟩
            rw [c1218] at p172
            obtain ⟨v1219, c1220⟩ : ∃ v, I147 a0 16 = v := ⟨_, rfl⟩
            rw [c1220] at p173
            replace hF := hF.pos (by exact om_d9bcc258 p171)
            replace hP := hP.pos (by exact om_d9bcc258 p171)
            refine q_if_eq 57 dX7_readAlp_45 (by decide) (fun h1221 => ?_) (fun h1221 => ?_)
            · skip
              refine q_iconst dX7_readAlp_57 (by decide) ?_
              intro v1222 h1223
              have eF := hF.eq
              have eP := hP.eq
              obtain ⟨v1224, c1225⟩ : ∃ v, I147 a25 1 = v := ⟨_, rfl⟩
              have b1226 := iv2_1 hS155.1 ta25 c1225
              obtain ⟨v1227, c1228⟩ : ∃ v, I147 a0 2 = v := ⟨_, rfl⟩
              have b1229 := iv7_2 hS155.1 ta0 c1228
              obtain ⟨v1230, c1231⟩ : ∃ v, I147 a0 4 = v := ⟨_, rfl⟩
              have b1232 := iv7_4 hS155.1 ta0 c1231
              obtain ⟨v1233, c1234⟩ : ∃ v, I147 a0 3 = v := ⟨_, rfl⟩
              have b1235 := iv7_3 hS155.1 ta0 c1234
              obtain ⟨y1236, c1237⟩ : ∃ v, L149 a0 5 = v := ⟨_, rfl⟩
              obtain ⟨v1238, c1239⟩ : ∃ v, I147 a0 6 = v := ⟨_, rfl⟩
              exact tr_zret hZ dX7_readAlp_58 rfl (ti_b01 (by exact om_d99fa9e4 h1223) (by exact om_d3de7ec9 h1223)) (by decide) (by decide) ⟨v1222, rfl, rfl, rfl, rfl, rfl, hS155, hL160, (by exact om_3b50ecb9 h1223), (fun dr hd => (Option.some.inj (d26.symm.trans hd)) ▸ hO159), (Or.inr (⟨(by first | done | with_reducible assumption | omega), (by first | done | with_reducible assumption | exact om_7fac24c5 eF), (by (try rw [c1218]); first | done | with_reducible assumption | exact om_3345b898 p172 eF), (by (try rw [c1220]); first | done | with_reducible assumption | exact om_2757374c p173 eP), trivial⟩)), trivial⟩
            · skip
              exfalso; exact om_3a97d4a5 p170 h1221
        · skip
          exfalso; exact om_3624102b p96 h134
      · skip
        obtain ⟨v1240, c1241⟩ : ∃ v, I84 a0 15 = v := ⟨_, rfl⟩
        rw [c1241] at p109
        obtain ⟨v1242, c1243⟩ : ∃ v, I84 a0 16 = v := ⟨_, rfl⟩
        rw [c1243] at p110
        replace hF := hF.pos (by exact om_73cc8e29 p108)
        replace hP := hP.pos (by exact om_73cc8e29 p108)
        refine q_if_ne 28 dX7_readAlp_23 (by decide) (fun h1244 => ?_) (fun h1244 => ?_)
        · skip
          exfalso; exact om_3a97d4a5 p107 h1244
        · skip
          refine q_iconst dX7_readAlp_26 (by decide) ?_
          intro v1245 h1246
          have eF := hF.eq
          have eP := hP.eq
          obtain ⟨v1247, c1248⟩ : ∃ v, I84 a25 0 = v := ⟨_, rfl⟩
          have b1249 := iv2_0 hS92.1 ta25 c1248
          obtain ⟨v1250, c1251⟩ : ∃ v, I84 a25 1 = v := ⟨_, rfl⟩
          have b1252 := iv2_1 hS92.1 ta25 c1251
          obtain ⟨v1253, c1254⟩ : ∃ v, I84 a0 2 = v := ⟨_, rfl⟩
          have b1255 := iv7_2 hS92.1 ta0 c1254
          obtain ⟨v1256, c1257⟩ : ∃ v, I84 a0 4 = v := ⟨_, rfl⟩
          have b1258 := iv7_4 hS92.1 ta0 c1257
          obtain ⟨v1259, c1260⟩ : ∃ v, I84 a0 3 = v := ⟨_, rfl⟩
          have b1261 := iv7_3 hS92.1 ta0 c1260
          obtain ⟨y1262, c1263⟩ : ∃ v, L86 a0 5 = v := ⟨_, rfl⟩
          obtain ⟨v1264, c1265⟩ : ∃ v, I84 a0 6 = v := ⟨_, rfl⟩
          exact tr_zret hZ dX7_readAlp_27 rfl (ti_b01 (by exact om_d99fa9e4 h1246) (by exact om_d3de7ec9 h1246)) (by decide) (by decide) ⟨v1245, rfl, rfl, rfl, rfl, rfl, hS92, hL95, (by exact om_3b50ecb9 h1246), (fun dr hd => (Option.some.inj (d26.symm.trans hd)) ▸ hO94), (Or.inr (⟨(by first | done | with_reducible assumption | omega), (by first | done | with_reducible assumption | exact om_7fac24c5 eF), (by (try rw [c1241]); first | done | with_reducible assumption | exact om_3345b898 p109 eF), (by (try rw [c1243]); first | done | with_reducible assumption | exact om_2757374c p110 eP), trivial⟩)), trivial⟩
      · skip
        obtain ⟨v1266, c1267⟩ : ∃ v, I84 a0 15 = v := ⟨_, rfl⟩
        rw [c1267] at p114
        obtain ⟨v1268, c1269⟩ : ∃ v, I84 a0 16 = v := ⟨_, rfl⟩
        rw [c1269] at p115
        replace hF := hF.neg (by exact om_10ed11b5 p112)
        replace hP := hP.neg (by exact om_10ed11b5 p112)
        replace hF := hF.pos (by exact om_826589b0 h81 h83 p113)
        replace hP := hP.pos (by exact om_826589b0 h81 h83 p113)
        refine q_if_ne 28 dX7_readAlp_23 (by decide) (fun h1270 => ?_) (fun h1270 => ?_)
        · skip
          exfalso; exact om_3a97d4a5 p111 h1270
        · skip
          refine q_iconst dX7_readAlp_26 (by decide) ?_
          intro v1271 h1272
          have eF := hF.eq
          have eP := hP.eq
          obtain ⟨v1273, c1274⟩ : ∃ v, I84 a25 0 = v := ⟨_, rfl⟩
          have b1275 := iv2_0 hS92.1 ta25 c1274
          obtain ⟨v1276, c1277⟩ : ∃ v, I84 a25 1 = v := ⟨_, rfl⟩
          have b1278 := iv2_1 hS92.1 ta25 c1277
          obtain ⟨v1279, c1280⟩ : ∃ v, I84 a0 2 = v := ⟨_, rfl⟩
          have b1281 := iv7_2 hS92.1 ta0 c1280
          obtain ⟨v1282, c1283⟩ : ∃ v, I84 a0 4 = v := ⟨_, rfl⟩
          have b1284 := iv7_4 hS92.1 ta0 c1283
          obtain ⟨v1285, c1286⟩ : ∃ v, I84 a0 3 = v := ⟨_, rfl⟩
          have b1287 := iv7_3 hS92.1 ta0 c1286
          obtain ⟨y1288, c1289⟩ : ∃ v, L86 a0 5 = v := ⟨_, rfl⟩
          obtain ⟨v1290, c1291⟩ : ∃ v, I84 a0 6 = v := ⟨_, rfl⟩
          exact tr_zret hZ dX7_readAlp_27 rfl (ti_b01 (by exact om_d99fa9e4 h1272) (by exact om_d3de7ec9 h1272)) (by decide) (by decide) ⟨v1271, rfl, rfl, rfl, rfl, rfl, hS92, hL95, (by exact om_3b50ecb9 h1272), (fun dr hd => (Option.some.inj (d26.symm.trans hd)) ▸ hO94), (Or.inr (⟨(by first | done | with_reducible assumption | omega), (by first | done | with_reducible assumption | exact om_7b84bd42 eF), (by (try rw [c1267]); first | done | with_reducible assumption | exact om_46d5da87 p114 eF), (by (try rw [c1269]); first | done | with_reducible assumption | exact om_2757374c p115 eP), trivial⟩)), trivial⟩
  · skip
    obtain ⟨v1292, c1293⟩ : ∃ v, I39 a0 15 = v := ⟨_, rfl⟩
    rw [c1293] at p62
    obtain ⟨v1294, c1295⟩ : ∃ v, I39 a0 16 = v := ⟨_, rfl⟩
    rw [c1295] at p63
    replace hF := hF.pos (by exact om_51495faf p12 p61)
    replace hP := hP.pos (by exact om_51495faf p12 p61)
    refine q_if_eq 26 dX7_readAlp_11 (by decide) (fun h1296 => ?_) (fun h1296 => ?_)
    · skip
      refine q_iconst dX7_readAlp_26 (by decide) ?_
      intro v1297 h1298
      have eF := hF.eq
      have eP := hP.eq
      obtain ⟨v1299, c1300⟩ : ∃ v, I39 a25 0 = v := ⟨_, rfl⟩
      have b1301 := iv2_0 hS47.1 ta25 c1300
      obtain ⟨v1302, c1303⟩ : ∃ v, I39 a25 1 = v := ⟨_, rfl⟩
      have b1304 := iv2_1 hS47.1 ta25 c1303
      obtain ⟨v1305, c1306⟩ : ∃ v, I39 a0 2 = v := ⟨_, rfl⟩
      have b1307 := iv7_2 hS47.1 ta0 c1306
      obtain ⟨v1308, c1309⟩ : ∃ v, I39 a0 4 = v := ⟨_, rfl⟩
      have b1310 := iv7_4 hS47.1 ta0 c1309
      obtain ⟨v1311, c1312⟩ : ∃ v, I39 a0 3 = v := ⟨_, rfl⟩
      have b1313 := iv7_3 hS47.1 ta0 c1312
      obtain ⟨y1314, c1315⟩ : ∃ v, L41 a0 5 = v := ⟨_, rfl⟩
      obtain ⟨v1316, c1317⟩ : ∃ v, I39 a0 6 = v := ⟨_, rfl⟩
      exact tr_zret hZ dX7_readAlp_27 rfl (ti_b01 (by exact om_d99fa9e4 h1298) (by exact om_d3de7ec9 h1298)) (by decide) (by decide) ⟨v1297, rfl, rfl, rfl, rfl, rfl, hS47, hL50, (by exact om_3b50ecb9 h1298), (fun dr hd => (Option.some.inj (d26.symm.trans hd)) ▸ hO49), (Or.inr (⟨(by first | done | with_reducible assumption | omega), (by first | done | with_reducible assumption | exact om_7fac24c5 eF), (by (try rw [c1293]); first | done | with_reducible assumption | exact om_3345b898 p62 eF), (by (try rw [c1295]); first | done | with_reducible assumption | exact om_86fa3162 p8 p63 eP), trivial⟩)), trivial⟩
    · skip
      exfalso; exact om_3a97d4a5 p60 h1296
def wik_X7_readEvent : List Nat := [131, 192, 193, 194, 195, 450, 451, 452, 454, 455, 456, 457, 463, 464]
def wrk_X7_readEvent : List Nat := []
def wlk_X7_readEvent : List Nat := [453]
set_option maxHeartbeats 4000000 in
theorem fk_X7_readEvent {l : Launch} {T : Nat → Nat} {cn : Nat} {K N : Nat → Nat} {I0 : cz_I} {R0 : cz_R} {L0 : cz_L} {d : Int} (hW0 : Wf T cn K N I0 R0 d) (gB : cz_B) (gs : Int) (gQ : Nat → Int) (gk : Int) {a0 : Nat} (ta0 : T a0 = 7) {x1 : Int32} (hx1 : 0 ≤ x1.toInt ∧ x1.toInt ≤ 4) (hT : ∀ t, R0 a0 0 = some t → Tx I0 t gB) (pre0 : (I0 a0 2).toInt = (tkN gB gs)) (pre1 : (I0 a0 4).toInt = (tkS gB gs)) (pre2 : (I0 a0 3).toInt = (tkK gB gs)) (pre3 : (AtW ((tkK gB gs)) ((L0 a0 5).toInt) ((tkW gB gs)))) (pre4 : (AtV ((tkK gB gs)) ((I0 a0 6).toInt) ((tkV gB gs)))) (pre5 : (I0 a0 1).toInt = (gB.2)) (pre6 : ∀ b1, R0 a0 10 = some b1 → (I0 b1 0).toInt = (gQ 0)) (pre7 : ∀ b1, R0 a0 10 = some b1 → (I0 b1 1).toInt = (gQ 1)) (pre8 : ∀ b1, R0 a0 10 = some b1 → (I0 b1 3).toInt = (gQ 2)) (pre9 : x1.toInt = (gk)) (pre10 : (gQ 2) ≤ 13) : ConE l mX7_readEvent [.ref a0, .int x1] cn K N I0 R0 L0 (ca_i (fun v cn' K' N' I' R' L' => cn = cn' ∧ K = K' ∧ N = N' ∧ R0 = R' ∧ St T cn K N d wik_X7_readEvent wrk_X7_readEvent I0 R0 I' R0 ∧ LgS T wlk_X7_readEvent L0 L' ∧ (0 ≤ v.toInt ∧ v.toInt ≤ 1) ∧ (∀ dr, R0 a0 10 = some dr → FrO 2 dr T I0 I') ∧ (((v.toInt = 1) ∧ ((I' a0 15).toInt = (I0 a0 15).toInt) ∧ ((evF gB gQ gk gs) = 0) ∧ (∀ b1, R0 a0 10 = some b1 → (I' b1 3).toInt = (gQ 2) + 1) ∧ ((I' a0 2).toInt = (tkN gB (evS gB gQ gk gs))) ∧ ((I' a0 4).toInt = (tkS gB (evS gB gQ gk gs))) ∧ ((I' a0 3).toInt = (tkK gB (evS gB gQ gk gs))) ∧ ((AtW ((tkK gB (evS gB gQ gk gs))) ((L' a0 5).toInt) ((tkW gB (evS gB gQ gk gs))))) ∧ ((AtV ((tkK gB (evS gB gQ gk gs))) ((I' a0 6).toInt) ((tkV gB (evS gB gQ gk gs))))) ∧ True) ∨ ((v.toInt = 0) ∧ ((evF gB gQ gk gs) ≠ 0) ∧ ((I' a0 15).toInt = (evF gB gQ gk gs)) ∧ ((I' a0 16).toInt = (evP gB gQ gk gs)) ∧ True)) ∧ True)) := by
  refine ConE.of (by decide +kernel) rfl (Nat.le_of_ble_eq_true rfl) rfl (fun X hX hZ hE => ?_)
  subst hX
  have hS0 : St T cn K N d wik_X7_readEvent wrk_X7_readEvent I0 R0 I0 R0 := St.rf0 hW0
  have hL0 : LgS T wlk_X7_readEvent L0 L0 := LgS.rf0
  obtain ⟨v1, c2⟩ : ∃ v, I0 a0 2 = v := ⟨_, rfl⟩
  have b3 := iv7_2 hS0.1 ta0 c2
  have p4 := pre0
  rw [c2] at p4
  obtain ⟨v5, c6⟩ : ∃ v, I0 a0 4 = v := ⟨_, rfl⟩
  have b7 := iv7_4 hS0.1 ta0 c6
  have p8 := pre1
  rw [c6] at p8
  obtain ⟨v9, c10⟩ : ∃ v, I0 a0 3 = v := ⟨_, rfl⟩
  have b11 := iv7_3 hS0.1 ta0 c10
  have p12 := pre2
  rw [c10] at p12
  obtain ⟨y13, c14⟩ : ∃ v, L0 a0 5 = v := ⟨_, rfl⟩
  have p15 := pre3
  rw [c14] at p15
  obtain ⟨v16, c17⟩ : ∃ v, I0 a0 6 = v := ⟨_, rfl⟩
  have p18 := pre4
  rw [c17] at p18
  obtain ⟨v19, c20⟩ : ∃ v, I0 a0 1 = v := ⟨_, rfl⟩
  have b21 := iv7_1 hW0 ta0 c20
  have p22 := pre5
  rw [c20] at p22
  obtain ⟨a23, d24, ta23⟩ := rf7_10 hW0 ta0
  obtain ⟨v25, c26⟩ : ∃ v, I0 a23 0 = v := ⟨_, rfl⟩
  have b27 := iv2_0 hW0 ta23 c26
  have p28 := pre6 _ d24
  rw [c26] at p28
  obtain ⟨v29, c30⟩ : ∃ v, I0 a23 1 = v := ⟨_, rfl⟩
  have b31 := iv2_1 hW0 ta23 c30
  have p32 := pre7 _ d24
  rw [c30] at p32
  obtain ⟨v33, c34⟩ : ∃ v, I0 a23 3 = v := ⟨_, rfl⟩
  have b35 := iv2_3 hS0.1 ta23 c34
  have p36 := pre8 _ d24
  rw [c34] at p36
  have p37 := pre9
  have p38 := pre10
  obtain ⟨v39, c40⟩ : ∃ v, I0 a0 15 = v := ⟨_, rfl⟩
  have hO0 : FrO 2 a23 T I0 I0 := FrO.rf
  refine tr_aload_n dX7_readEvent_0 rfl ?_
  refine tr_getR dX7_readEvent_1 fl7_22 (kR7 hS0.1 ta0) d24 ?_
  obtain ⟨a41, d42, ta41⟩ := rf2_4 hW0 ta23
  refine tr_getR dX7_readEvent_4 fl7_213 (kR2 hS0.1 ta23) d42 ?_
  refine tr_aload_n dX7_readEvent_7 rfl ?_
  refine tr_getR dX7_readEvent_8 fl7_22 (kR7 hS0.1 ta0) d24 ?_
  refine q_getI dX7_readEvent_11 fl7_165 (kR2 hS0.1 ta23) c34 ?_
  obtain ⟨a43, d44, ta43⟩ := rf19 hS0.1 ta41 (j := v33.toNatClampNeg) (ti_lt (by exact om_2beebd87 pre10 b35.2 b35.1 p36) (by exact om_005b4d5a pre10 b35.2 b35.1 p36))
  refine tr_aald dX7_readEvent_14 (kR19 hS0.1 ta41) (by decide) (by decide) (ti_in (nR19 hS0.1 ta41) (by exact om_2beebd87 pre10 b35.2 b35.1 p36) (by exact om_005b4d5a pre10 b35.2 b35.1 p36)) d44 ?_
  refine tr_astore_n dX7_readEvent_15 (by decide) (by decide) ?_
  refine tr_aload_n dX7_readEvent_16 rfl ?_
  refine tr_iload_n dX7_readEvent_17 rfl ?_
  refine q_putI dX7_readEvent_18 fl7_217 (kR3 hS0.1 ta43) (Or.inl rfl) hS0 ta43 (iokF rfl) rfl (by decide +kernel) ?_
  intro I45 hS46 e47 f48
  have c49 : I45 a0 2 = v1 := (f48 _ _ (fun q => absurd q.2 (by decide))).trans c2
  have c50 : I45 a0 4 = v5 := (f48 _ _ (fun q => absurd q.2 (by decide))).trans c6
  have c51 : I45 a0 3 = v9 := (f48 _ _ (fun q => absurd q.2 (by decide))).trans c10
  have c52 : I45 a0 6 = v16 := (f48 _ _ (fun q => absurd q.2 (by decide))).trans c17
  have c53 : I45 a23 3 = v33 := (f48 _ _ (fun q => absurd q.2 (by decide))).trans c34
  have c54 : I45 a0 15 = v39 := (f48 _ _ (fun q => absurd q.2 (by decide))).trans c40
  have hO55 : FrO 2 a23 T I0 I45 := hO0.put f48 ta43 (Or.inl (by decide))
  refine tr_aload_n dX7_readEvent_21 rfl ?_
  refine q_bipush dX7_readEvent_22 (by decide +kernel) ?_
  intro v56 h57
  refine q_putI dX7_readEvent_24 fl7_220 (kR3 hS46.1 ta43) (Or.inl rfl) hS46 ta43 (iokF rfl) rfl (by decide +kernel) ?_
  intro I58 hS59 e60 f61
  have c62 : I58 a0 2 = v1 := (f61 _ _ (fun q => absurd q.2 (by decide))).trans c49
  have c63 : I58 a0 4 = v5 := (f61 _ _ (fun q => absurd q.2 (by decide))).trans c50
  have c64 : I58 a0 3 = v9 := (f61 _ _ (fun q => absurd q.2 (by decide))).trans c51
  have c65 : I58 a0 6 = v16 := (f61 _ _ (fun q => absurd q.2 (by decide))).trans c52
  have c66 : I58 a23 3 = v33 := (f61 _ _ (fun q => absurd q.2 (by decide))).trans c53
  have c67 : I58 a0 15 = v39 := (f61 _ _ (fun q => absurd q.2 (by decide))).trans c54
  have c68 : I58 a43 0 = x1 := (f61 _ _ (fun q => absurd q.2 (by decide))).trans e47
  have hO69 : FrO 2 a23 T I0 I58 := hO55.put f61 ta43 (Or.inl (by decide))
  refine tr_iload_n dX7_readEvent_27 rfl ?_
  refine q_iconst dX7_readEvent_28 (by decide) ?_
  intro v70 h71
  refine q_icmp_eq 37 dX7_readEvent_29 (by decide) (fun h72 => ?_) (fun h72 => ?_)
  · skip
    refine tr_aload_n dX7_readEvent_37 rfl ?_
    refine q_callVi hE (M' := mX7_takeHut) (as := []) dX7_readEvent_38 lk7_223 inX7_takeHut seX7_takeHut myX7_takeHut (by decide) ⟨by decide, by decide⟩ rfl (kR7 hS59.1 ta0) (Nat.le_of_ble_eq_true rfl) rfl rfl (by decide) (by decide) (fk_X7_takeHut hS59.1 (gB) (gs) (gQ) ta0 (TxA.kp hT hS59 ta0 rfl rfl rfl (by decide +kernel) (by decide +kernel)) (by (try rw [c62]); first | done | with_reducible assumption | omega) (by (try rw [c63]); first | done | with_reducible assumption | omega) (by (try rw [c64]); first | done | with_reducible assumption | omega) (by (try rw [c14]); first | done | assumption) (by (try rw [c65]); first | done | assumption) (by (try rw [((hS59.cell ta0 (by decide +kernel)).trans c20)]); first | done | with_reducible assumption | omega) (fun q0 z0 => by obtain rfl := Option.some.inj ((d24).symm.trans z0); (try rw [((hS59.cell ta23 (by decide +kernel)).trans c30)]); first | done | with_reducible assumption | omega)) ?_
    rintro v78 cn' K' N' I73 R74 L75 ⟨rfl, rfl, rfl, rfl, g76, gl77, h79, dj80, -⟩
    have hS81 := hS59.tr g76 (by decide +kernel) (by decide +kernel)
    have c82 : I73 a23 3 = v33 := (g76.cell ta23 (by decide +kernel)).trans c66
    have c83 : I73 a43 0 = x1 := (g76.cell ta43 (by decide +kernel)).trans c68
    have c84 : I73 a43 1 = v56 := (g76.cell ta43 (by decide +kernel)).trans e60
    have hO85 : FrO 2 a23 T I0 I73 := hO69.st g76 (by decide +kernel)
    have hL86 := hL0.tr gl77 (by decide +kernel)
    rcases dj80 with ⟨p87, p88, p89, p90, p91, p92, p93, p94, p95, p96, p97, -⟩ | ⟨p98, p99, p100, p101, -⟩ | ⟨p102, p103, p104, p105, p106, -⟩
    · skip
      obtain ⟨v107, c108⟩ : ∃ v, I73 a0 15 = v := ⟨_, rfl⟩
      rw [c108] at p88
      rw [c67] at p88
      obtain ⟨v109, c110⟩ : ∃ v, I73 a0 7 = v := ⟨_, rfl⟩
      have b111 := iv7_7 hS81.1 ta0 c110
      rw [c110] at p92
      obtain ⟨v112, c113⟩ : ∃ v, I73 a0 2 = v := ⟨_, rfl⟩
      have b114 := iv7_2 hS81.1 ta0 c113
      rw [c113] at p93
      obtain ⟨v115, c116⟩ : ∃ v, I73 a0 4 = v := ⟨_, rfl⟩
      have b117 := iv7_4 hS81.1 ta0 c116
      rw [c116] at p94
      obtain ⟨v118, c119⟩ : ∃ v, I73 a0 3 = v := ⟨_, rfl⟩
      have b120 := iv7_3 hS81.1 ta0 c119
      rw [c119] at p95
      obtain ⟨y121, c122⟩ : ∃ v, L75 a0 5 = v := ⟨_, rfl⟩
      rw [c122] at p96
      obtain ⟨v123, c124⟩ : ∃ v, I73 a0 6 = v := ⟨_, rfl⟩
      rw [c124] at p97
      refine q_if_ne 46 dX7_readEvent_41 (by decide) (fun h125 => ?_) (fun h125 => ?_)
      · skip
        refine tr_aload_n dX7_readEvent_46 rfl ?_
        refine tr_aload_n dX7_readEvent_47 rfl ?_
        refine q_getI dX7_readEvent_48 fl7_109 (kR7 hS81.1 ta0) c110 ?_
        refine q_putI dX7_readEvent_51 fl7_220 (kR3 hS81.1 ta43) (Or.inl rfl) hS81 ta43 (iokF rfl) rfl (by decide +kernel) ?_
        intro I126 hS127 e128 f129
        have c130 : I126 a23 3 = v33 := (f129 _ _ (fun q => absurd q.2 (by decide))).trans c82
        have c131 : I126 a43 0 = x1 := (f129 _ _ (fun q => absurd q.2 (by decide))).trans c83
        have c132 : I126 a0 15 = v107 := (f129 _ _ (fun q => absurd q.2 (by decide))).trans c108
        have c133 : I126 a0 7 = v109 := (f129 _ _ (fun q => absurd q.2 (by decide))).trans c110
        have c134 : I126 a0 2 = v112 := (f129 _ _ (fun q => absurd q.2 (by decide))).trans c113
        have c135 : I126 a0 4 = v115 := (f129 _ _ (fun q => absurd q.2 (by decide))).trans c116
        have c136 : I126 a0 3 = v118 := (f129 _ _ (fun q => absurd q.2 (by decide))).trans c119
        have c137 : I126 a0 6 = v123 := (f129 _ _ (fun q => absurd q.2 (by decide))).trans c124
        have hO138 : FrO 2 a23 T I0 I126 := hO85.put f129 ta43 (Or.inl (by decide))
        refine tr_iload_n dX7_readEvent_54 rfl ?_
        refine q_iconst dX7_readEvent_55 (by decide) ?_
        intro v139 h140
        refine q_icmp_ne 99 dX7_readEvent_56 (by decide) (fun h141 => ?_) (fun h141 => ?_)
        · skip
          refine tr_aload_n dX7_readEvent_99 rfl ?_
          refine q_callVi hE (M' := mX7_takeSpan) (as := []) dX7_readEvent_100 lk7_226 inX7_takeSpan seX7_takeSpan myX7_takeSpan (by decide) ⟨by decide, by decide⟩ rfl (kR7 hS127.1 ta0) (Nat.le_of_ble_eq_true rfl) rfl rfl (by decide) (by decide) (fk_X7_takeSpan hS127.1 (gB) ((tkN gB gs)) (gQ) ta0 (TxA.kp hT hS127 ta0 rfl rfl rfl (by decide +kernel) (by decide +kernel)) (by (try rw [c134]); first | done | with_reducible assumption | omega) (by (try rw [c135]); first | done | with_reducible assumption | omega) (by (try rw [c136]); first | done | with_reducible assumption | omega) (by (try rw [c122]); first | done | assumption) (by (try rw [c137]); first | done | assumption) (by (try rw [((hS127.cell ta0 (by decide +kernel)).trans c20)]); first | done | with_reducible assumption | omega) (fun q0 z0 => by obtain rfl := Option.some.inj ((d24).symm.trans z0); (try rw [((hS127.cell ta23 (by decide +kernel)).trans c26)]); first | done | with_reducible assumption | omega)) ?_
          rintro v147 cn' K' N' I142 R143 L144 ⟨rfl, rfl, rfl, rfl, g145, gl146, h148, dj149, -⟩
          have hS150 := hS127.tr g145 (by decide +kernel) (by decide +kernel)
          have c151 : I142 a23 3 = v33 := (g145.cell ta23 (by decide +kernel)).trans c130
          have c152 : I142 a43 0 = x1 := (g145.cell ta43 (by decide +kernel)).trans c131
          have c153 : I142 a43 1 = v109 := (g145.cell ta43 (by decide +kernel)).trans e128
          have hO154 : FrO 2 a23 T I0 I142 := hO138.st g145 (by decide +kernel)
          have hL155 := hL86.tr gl146 (by decide +kernel)
          rcases dj149 with ⟨p156, p157, p158, p159, p160, p161, p162, p163, p164, p165, -⟩ | ⟨p166, p167, p168, p169, -⟩
          · skip
            obtain ⟨v170, c171⟩ : ∃ v, I142 a0 15 = v := ⟨_, rfl⟩
            rw [c171] at p157
            rw [c132] at p157
            obtain ⟨v172, c173⟩ : ∃ v, I142 a0 8 = v := ⟨_, rfl⟩
            have b174 := iv7_8 hS150.1 ta0 c173
            rw [c173] at p159
            obtain ⟨v175, c176⟩ : ∃ v, I142 a0 9 = v := ⟨_, rfl⟩
            have b177 := iv7_9 hS150.1 ta0 c176
            rw [c176] at p160
            obtain ⟨v178, c179⟩ : ∃ v, I142 a0 2 = v := ⟨_, rfl⟩
            have b180 := iv7_2 hS150.1 ta0 c179
            rw [c179] at p161
            obtain ⟨v181, c182⟩ : ∃ v, I142 a0 4 = v := ⟨_, rfl⟩
            have b183 := iv7_4 hS150.1 ta0 c182
            rw [c182] at p162
            obtain ⟨v184, c185⟩ : ∃ v, I142 a0 3 = v := ⟨_, rfl⟩
            have b186 := iv7_3 hS150.1 ta0 c185
            rw [c185] at p163
            obtain ⟨y187, c188⟩ : ∃ v, L144 a0 5 = v := ⟨_, rfl⟩
            rw [c188] at p164
            obtain ⟨v189, c190⟩ : ∃ v, I142 a0 6 = v := ⟨_, rfl⟩
            rw [c190] at p165
            refine q_if_ne 108 dX7_readEvent_103 (by decide) (fun h191 => ?_) (fun h191 => ?_)
            · skip
              refine tr_aload_n dX7_readEvent_108 rfl ?_
              refine tr_aload_n dX7_readEvent_109 rfl ?_
              refine q_getI dX7_readEvent_110 fl7_121 (kR7 hS150.1 ta0) c173 ?_
              refine q_putI dX7_readEvent_113 fl7_229 (kR3 hS150.1 ta43) (Or.inl rfl) hS150 ta43 (by show (0 : Int) ≤ v172.toInt ∧ v172.toInt ≤ (240 : Int); exact om_d956ef70 b174) rfl (by decide +kernel) ?_
              intro I192 hS193 e194 f195
              have c196 : I192 a23 3 = v33 := (f195 _ _ (fun q => absurd q.2 (by decide))).trans c151
              have c197 : I192 a43 0 = x1 := (f195 _ _ (fun q => absurd q.2 (by decide))).trans c152
              have c198 : I192 a43 1 = v109 := (f195 _ _ (fun q => absurd q.2 (by decide))).trans c153
              have c199 : I192 a0 15 = v170 := (f195 _ _ (fun q => absurd q.2 (by decide))).trans c171
              have c200 : I192 a0 8 = v172 := (f195 _ _ (fun q => absurd q.2 (by decide))).trans c173
              have c201 : I192 a0 9 = v175 := (f195 _ _ (fun q => absurd q.2 (by decide))).trans c176
              have c202 : I192 a0 2 = v178 := (f195 _ _ (fun q => by have z := ta0; rw [q.1, ta43] at z; exact absurd z (by decide))).trans c179
              have c203 : I192 a0 4 = v181 := (f195 _ _ (fun q => absurd q.2 (by decide))).trans c182
              have c204 : I192 a0 3 = v184 := (f195 _ _ (fun q => absurd q.2 (by decide))).trans c185
              have c205 : I192 a0 6 = v189 := (f195 _ _ (fun q => absurd q.2 (by decide))).trans c190
              have hO206 : FrO 2 a23 T I0 I192 := hO154.put f195 ta43 (Or.inl (by decide))
              refine tr_aload_n dX7_readEvent_116 rfl ?_
              refine tr_aload_n dX7_readEvent_117 rfl ?_
              refine q_getI dX7_readEvent_118 fl7_129 (kR7 hS193.1 ta0) c201 ?_
              refine q_putI dX7_readEvent_121 fl7_230 (kR3 hS193.1 ta43) (Or.inl rfl) hS193 ta43 (by show (0 : Int) ≤ v175.toInt ∧ v175.toInt ≤ (240 : Int); exact om_d956ef70 b177) rfl (by decide +kernel) ?_
              intro I207 hS208 e209 f210
              have c211 : I207 a23 3 = v33 := (f210 _ _ (fun q => by have z := ta23; rw [q.1, ta43] at z; exact absurd z (by decide))).trans c196
              have c212 : I207 a43 0 = x1 := (f210 _ _ (fun q => absurd q.2 (by decide))).trans c197
              have c213 : I207 a43 1 = v109 := (f210 _ _ (fun q => absurd q.2 (by decide))).trans c198
              have c214 : I207 a0 15 = v170 := (f210 _ _ (fun q => absurd q.2 (by decide))).trans c199
              have c215 : I207 a0 8 = v172 := (f210 _ _ (fun q => absurd q.2 (by decide))).trans c200
              have c216 : I207 a0 9 = v175 := (f210 _ _ (fun q => absurd q.2 (by decide))).trans c201
              have c217 : I207 a0 2 = v178 := (f210 _ _ (fun q => absurd q.2 (by decide))).trans c202
              have c218 : I207 a0 4 = v181 := (f210 _ _ (fun q => absurd q.2 (by decide))).trans c203
              have c219 : I207 a0 3 = v184 := (f210 _ _ (fun q => by have z := ta0; rw [q.1, ta43] at z; exact absurd z (by decide))).trans c204
              have c220 : I207 a0 6 = v189 := (f210 _ _ (fun q => absurd q.2 (by decide))).trans c205
              have c221 : I207 a43 2 = v172 := (f210 _ _ (fun q => absurd q.2 (by decide))).trans e194
              have hO222 : FrO 2 a23 T I0 I207 := hO206.put f210 ta43 (Or.inl (by decide))
              refine tr_aload_n dX7_readEvent_124 rfl ?_
              refine tr_getR dX7_readEvent_125 fl7_22 (kR7 hS208.1 ta0) d24 ?_
              refine tr_dup dX7_readEvent_128 rfl ?_
              refine q_getI dX7_readEvent_129 fl7_165 (kR2 hS208.1 ta23) c211 ?_
              refine q_iconst dX7_readEvent_132 (by decide) ?_
              intro v223 h224
              refine q_iaddE dX7_readEvent_133 (by intro j1 j2 j3 j4; exact om_c5583028 pre10 b35.2 b35.1 p36 h224) ?_
              intro v225 h226
              refine q_putI dX7_readEvent_134 fl7_165 (kR2 hS208.1 ta23) (Or.inl rfl) hS208 ta23 (by show (0 : Int) ≤ v225.toInt ∧ v225.toInt ≤ (14 : Int); exact om_98c114f7 pre10 b35.2 b35.1 p36 h224 h226) rfl (by decide +kernel) ?_
              intro I227 hS228 e229 f230
              have c231 : I227 a43 0 = x1 := (f230 _ _ (fun q => absurd q.2 (by decide))).trans c212
              have c232 : I227 a43 1 = v109 := (f230 _ _ (fun q => absurd q.2 (by decide))).trans c213
              have c233 : I227 a0 15 = v170 := (f230 _ _ (fun q => absurd q.2 (by decide))).trans c214
              have c234 : I227 a0 8 = v172 := (f230 _ _ (fun q => absurd q.2 (by decide))).trans c215
              have c235 : I227 a0 9 = v175 := (f230 _ _ (fun q => absurd q.2 (by decide))).trans c216
              have c236 : I227 a0 2 = v178 := (f230 _ _ (fun q => absurd q.2 (by decide))).trans c217
              have c237 : I227 a0 4 = v181 := (f230 _ _ (fun q => absurd q.2 (by decide))).trans c218
              have c238 : I227 a0 3 = v184 := (f230 _ _ (fun q => by have z := ta0; rw [q.1, ta23] at z; exact absurd z (by decide))).trans c219
              have c239 : I227 a0 6 = v189 := (f230 _ _ (fun q => absurd q.2 (by decide))).trans c220
              have c240 : I227 a43 2 = v172 := (f230 _ _ (fun q => absurd q.2 (by decide))).trans c221
              have c241 : I227 a43 3 = v175 := (f230 _ _ (fun q => by have z := ta43; rw [q.1, ta23] at z; exact absurd z (by decide))).trans e209
              have hO242 : FrO 2 a23 T I0 I227 := hO222.put f230 ta23 (Or.inr rfl)
              refine q_iconst dX7_readEvent_137 (by decide) ?_
              intro v243 h244
              have es245 : evS gB gQ gk gs = (tkN gB (tkN gB (tkN gB (tkN gB gs)))) := by exact om_721aeb70 pre9 h71 h72
              obtain ⟨v246, c247⟩ : ∃ v, I227 a0 16 = v := ⟨_, rfl⟩
              exact tr_zret hZ dX7_readEvent_138 rfl (ti_b01 (by exact om_f9079521 h244) (by exact om_e6632817 h244)) (by decide) (by decide) ⟨v243, rfl, rfl, rfl, rfl, rfl, hS228, hL155, (by exact om_d753bc65 h244), (fun dr hd => (Option.some.inj (d24.symm.trans hd)) ▸ hO242), (Or.inl ⟨(by (try rw [es245]); first | done | with_reducible assumption | omega), (by (try rw [es245]); (try rw [c233]); (try rw [c40]); first | done | with_reducible assumption | exact om_9fa72578 p88 p157), (by (try rw [es245]); first | done | with_reducible assumption | fail | (exact om_10518f83 pre9 h71 h72 p89 p90 p91 p92 b111.2 p158)), (fun q0 z0 => by obtain rfl := Option.some.inj ((d24).symm.trans z0); (try rw [es245]); (try rw [e229]); first | done | with_reducible assumption | exact om_58c7f992 p36 h224 h226), (by (try rw [es245]); (try rw [c236]); first | done | with_reducible assumption | omega), (by (try rw [es245]); (try rw [c237]); first | done | with_reducible assumption | omega), (by (try rw [es245]); (try rw [c238]); first | done | with_reducible assumption | omega), (by (try rw [es245]); (try rw [c188]); first | done | assumption), (by (try rw [es245]); (try rw [c239]); first | done | assumption), trivial⟩), trivial⟩
            · skip
              exfalso; exact om_3624102b p156 h191
          · skip
            obtain ⟨v248, c249⟩ : ∃ v, I142 a0 15 = v := ⟨_, rfl⟩
            rw [c249] at p168
            obtain ⟨v250, c251⟩ : ∃ v, I142 a0 16 = v := ⟨_, rfl⟩
            rw [c251] at p169
            refine q_if_ne 108 dX7_readEvent_103 (by decide) (fun h252 => ?_) (fun h252 => ?_)
            · skip
              exfalso; exact om_3a97d4a5 p166 h252
            · skip
              refine q_iconst dX7_readEvent_106 (by decide) ?_
              intro v253 h254
              obtain ⟨v255, c256⟩ : ∃ v, I142 a0 2 = v := ⟨_, rfl⟩
              have b257 := iv7_2 hS150.1 ta0 c256
              obtain ⟨v258, c259⟩ : ∃ v, I142 a0 4 = v := ⟨_, rfl⟩
              have b260 := iv7_4 hS150.1 ta0 c259
              obtain ⟨v261, c262⟩ : ∃ v, I142 a0 3 = v := ⟨_, rfl⟩
              have b263 := iv7_3 hS150.1 ta0 c262
              obtain ⟨y264, c265⟩ : ∃ v, L144 a0 5 = v := ⟨_, rfl⟩
              obtain ⟨v266, c267⟩ : ∃ v, I142 a0 6 = v := ⟨_, rfl⟩
              exact tr_zret hZ dX7_readEvent_107 rfl (ti_b01 (by exact om_d99fa9e4 h254) (by exact om_d3de7ec9 h254)) (by decide) (by decide) ⟨v253, rfl, rfl, rfl, rfl, rfl, hS150, hL155, (by exact om_3b50ecb9 h254), (fun dr hd => (Option.some.inj (d24.symm.trans hd)) ▸ hO154), (Or.inr (⟨(by first | done | with_reducible assumption | omega), (by first | done | with_reducible assumption | fail | (exact om_4f07cd42 pre9 h71 h72 p89 p167)), (by (try rw [c249]); first | done | with_reducible assumption | fail | (exact om_50aaa545 pre9 h71 h72 p89 p90 p91 p92 b111.2 p168)), (by (try rw [c251]); first | done | with_reducible assumption | fail | (exact om_a58203a5 pre9 h71 h72 p89 p90 p91 p92 b111.2 p169)), trivial⟩)), trivial⟩
        · skip
          exfalso; exact om_7aa97200 pre9 h71 h72 h140 h141
      · skip
        exfalso; exact om_3624102b p87 h125
    · skip
      obtain ⟨v268, c269⟩ : ∃ v, I73 a0 15 = v := ⟨_, rfl⟩
      rw [c269] at p100
      obtain ⟨v270, c271⟩ : ∃ v, I73 a0 16 = v := ⟨_, rfl⟩
      rw [c271] at p101
      refine q_if_ne 46 dX7_readEvent_41 (by decide) (fun h272 => ?_) (fun h272 => ?_)
      · skip
        exfalso; exact om_3a97d4a5 p98 h272
      · skip
        refine q_iconst dX7_readEvent_44 (by decide) ?_
        intro v273 h274
        obtain ⟨v275, c276⟩ : ∃ v, I73 a0 2 = v := ⟨_, rfl⟩
        have b277 := iv7_2 hS81.1 ta0 c276
        obtain ⟨v278, c279⟩ : ∃ v, I73 a0 4 = v := ⟨_, rfl⟩
        have b280 := iv7_4 hS81.1 ta0 c279
        obtain ⟨v281, c282⟩ : ∃ v, I73 a0 3 = v := ⟨_, rfl⟩
        have b283 := iv7_3 hS81.1 ta0 c282
        obtain ⟨y284, c285⟩ : ∃ v, L75 a0 5 = v := ⟨_, rfl⟩
        obtain ⟨v286, c287⟩ : ∃ v, I73 a0 6 = v := ⟨_, rfl⟩
        exact tr_zret hZ dX7_readEvent_45 rfl (ti_b01 (by exact om_d99fa9e4 h274) (by exact om_d3de7ec9 h274)) (by decide) (by decide) ⟨v273, rfl, rfl, rfl, rfl, rfl, hS81, hL86, (by exact om_3b50ecb9 h274), (fun dr hd => (Option.some.inj (d24.symm.trans hd)) ▸ hO85), (Or.inr (⟨(by first | done | with_reducible assumption | omega), (by first | done | with_reducible assumption | fail | (exact om_37114cb6 pre9 h71 h72 p99)), (by (try rw [c269]); first | done | with_reducible assumption | fail | (exact om_518ae060 pre9 h71 h72 p99 p100)), (by (try rw [c271]); first | done | with_reducible assumption | fail | (exact om_a322de69 pre9 h71 h72 p99 p101)), trivial⟩)), trivial⟩
    · skip
      obtain ⟨v288, c289⟩ : ∃ v, I73 a0 15 = v := ⟨_, rfl⟩
      rw [c289] at p105
      obtain ⟨v290, c291⟩ : ∃ v, I73 a0 16 = v := ⟨_, rfl⟩
      rw [c291] at p106
      refine q_if_ne 46 dX7_readEvent_41 (by decide) (fun h292 => ?_) (fun h292 => ?_)
      · skip
        exfalso; exact om_3a97d4a5 p102 h292
      · skip
        refine q_iconst dX7_readEvent_44 (by decide) ?_
        intro v293 h294
        obtain ⟨v295, c296⟩ : ∃ v, I73 a0 2 = v := ⟨_, rfl⟩
        have b297 := iv7_2 hS81.1 ta0 c296
        obtain ⟨v298, c299⟩ : ∃ v, I73 a0 4 = v := ⟨_, rfl⟩
        have b300 := iv7_4 hS81.1 ta0 c299
        obtain ⟨v301, c302⟩ : ∃ v, I73 a0 3 = v := ⟨_, rfl⟩
        have b303 := iv7_3 hS81.1 ta0 c302
        obtain ⟨y304, c305⟩ : ∃ v, L75 a0 5 = v := ⟨_, rfl⟩
        obtain ⟨v306, c307⟩ : ∃ v, I73 a0 6 = v := ⟨_, rfl⟩
        exact tr_zret hZ dX7_readEvent_45 rfl (ti_b01 (by exact om_d99fa9e4 h294) (by exact om_d3de7ec9 h294)) (by decide) (by decide) ⟨v293, rfl, rfl, rfl, rfl, rfl, hS81, hL86, (by exact om_3b50ecb9 h294), (fun dr hd => (Option.some.inj (d24.symm.trans hd)) ▸ hO85), (Or.inr (⟨(by first | done | with_reducible assumption | omega), (by first | done | with_reducible assumption | fail | (exact om_89918dcf pre9 h71 h72 p103 p104)), (by (try rw [c289]); first | done | with_reducible assumption | fail | (exact om_c46bc471 pre9 h71 h72 p103 p104 p105)), (by (try rw [c291]); first | done | with_reducible assumption | fail | (exact om_b17cf0bf pre9 h71 h72 p103 p104 p106)), trivial⟩)), trivial⟩
  · skip
    refine tr_iload_n dX7_readEvent_32 rfl ?_
    refine q_iconst dX7_readEvent_33 (by decide) ?_
    intro v308 h309
    refine q_icmp_ne 54 dX7_readEvent_34 (by decide) (fun h310 => ?_) (fun h310 => ?_)
    · skip
      refine tr_iload_n dX7_readEvent_54 rfl ?_
      refine q_iconst dX7_readEvent_55 (by decide) ?_
      intro v311 h312
      refine q_icmp_ne 99 dX7_readEvent_56 (by decide) (fun h313 => ?_) (fun h313 => ?_)
      · skip
        refine tr_aload_n dX7_readEvent_99 rfl ?_
        refine q_callVi hE (M' := mX7_takeSpan) (as := []) dX7_readEvent_100 lk7_226 inX7_takeSpan seX7_takeSpan myX7_takeSpan (by decide) ⟨by decide, by decide⟩ rfl (kR7 hS59.1 ta0) (Nat.le_of_ble_eq_true rfl) rfl rfl (by decide) (by decide) (fk_X7_takeSpan hS59.1 (gB) (gs) (gQ) ta0 (TxA.kp hT hS59 ta0 rfl rfl rfl (by decide +kernel) (by decide +kernel)) (by (try rw [c62]); first | done | with_reducible assumption | omega) (by (try rw [c63]); first | done | with_reducible assumption | omega) (by (try rw [c64]); first | done | with_reducible assumption | omega) (by (try rw [c14]); first | done | assumption) (by (try rw [c65]); first | done | assumption) (by (try rw [((hS59.cell ta0 (by decide +kernel)).trans c20)]); first | done | with_reducible assumption | omega) (fun q0 z0 => by obtain rfl := Option.some.inj ((d24).symm.trans z0); (try rw [((hS59.cell ta23 (by decide +kernel)).trans c26)]); first | done | with_reducible assumption | omega)) ?_
        rintro v319 cn' K' N' I314 R315 L316 ⟨rfl, rfl, rfl, rfl, g317, gl318, h320, dj321, -⟩
        have hS322 := hS59.tr g317 (by decide +kernel) (by decide +kernel)
        have c323 : I314 a23 3 = v33 := (g317.cell ta23 (by decide +kernel)).trans c66
        have c324 : I314 a43 0 = x1 := (g317.cell ta43 (by decide +kernel)).trans c68
        have c325 : I314 a43 1 = v56 := (g317.cell ta43 (by decide +kernel)).trans e60
        have hO326 : FrO 2 a23 T I0 I314 := hO69.st g317 (by decide +kernel)
        have hL327 := hL0.tr gl318 (by decide +kernel)
        rcases dj321 with ⟨p328, p329, p330, p331, p332, p333, p334, p335, p336, p337, -⟩ | ⟨p338, p339, p340, p341, -⟩
        · skip
          obtain ⟨v342, c343⟩ : ∃ v, I314 a0 15 = v := ⟨_, rfl⟩
          rw [c343] at p329
          rw [c67] at p329
          obtain ⟨v344, c345⟩ : ∃ v, I314 a0 8 = v := ⟨_, rfl⟩
          have b346 := iv7_8 hS322.1 ta0 c345
          rw [c345] at p331
          obtain ⟨v347, c348⟩ : ∃ v, I314 a0 9 = v := ⟨_, rfl⟩
          have b349 := iv7_9 hS322.1 ta0 c348
          rw [c348] at p332
          obtain ⟨v350, c351⟩ : ∃ v, I314 a0 2 = v := ⟨_, rfl⟩
          have b352 := iv7_2 hS322.1 ta0 c351
          rw [c351] at p333
          obtain ⟨v353, c354⟩ : ∃ v, I314 a0 4 = v := ⟨_, rfl⟩
          have b355 := iv7_4 hS322.1 ta0 c354
          rw [c354] at p334
          obtain ⟨v356, c357⟩ : ∃ v, I314 a0 3 = v := ⟨_, rfl⟩
          have b358 := iv7_3 hS322.1 ta0 c357
          rw [c357] at p335
          obtain ⟨y359, c360⟩ : ∃ v, L316 a0 5 = v := ⟨_, rfl⟩
          rw [c360] at p336
          obtain ⟨v361, c362⟩ : ∃ v, I314 a0 6 = v := ⟨_, rfl⟩
          rw [c362] at p337
          refine q_if_ne 108 dX7_readEvent_103 (by decide) (fun h363 => ?_) (fun h363 => ?_)
          · skip
            refine tr_aload_n dX7_readEvent_108 rfl ?_
            refine tr_aload_n dX7_readEvent_109 rfl ?_
            refine q_getI dX7_readEvent_110 fl7_121 (kR7 hS322.1 ta0) c345 ?_
            refine q_putI dX7_readEvent_113 fl7_229 (kR3 hS322.1 ta43) (Or.inl rfl) hS322 ta43 (by show (0 : Int) ≤ v344.toInt ∧ v344.toInt ≤ (240 : Int); exact om_d956ef70 b346) rfl (by decide +kernel) ?_
            intro I364 hS365 e366 f367
            have c368 : I364 a23 3 = v33 := (f367 _ _ (fun q => absurd q.2 (by decide))).trans c323
            have c369 : I364 a43 0 = x1 := (f367 _ _ (fun q => absurd q.2 (by decide))).trans c324
            have c370 : I364 a43 1 = v56 := (f367 _ _ (fun q => absurd q.2 (by decide))).trans c325
            have c371 : I364 a0 15 = v342 := (f367 _ _ (fun q => absurd q.2 (by decide))).trans c343
            have c372 : I364 a0 8 = v344 := (f367 _ _ (fun q => absurd q.2 (by decide))).trans c345
            have c373 : I364 a0 9 = v347 := (f367 _ _ (fun q => absurd q.2 (by decide))).trans c348
            have c374 : I364 a0 2 = v350 := (f367 _ _ (fun q => by have z := ta0; rw [q.1, ta43] at z; exact absurd z (by decide))).trans c351
            have c375 : I364 a0 4 = v353 := (f367 _ _ (fun q => absurd q.2 (by decide))).trans c354
            have c376 : I364 a0 3 = v356 := (f367 _ _ (fun q => absurd q.2 (by decide))).trans c357
            have c377 : I364 a0 6 = v361 := (f367 _ _ (fun q => absurd q.2 (by decide))).trans c362
            have hO378 : FrO 2 a23 T I0 I364 := hO326.put f367 ta43 (Or.inl (by decide))
            refine tr_aload_n dX7_readEvent_116 rfl ?_
            refine tr_aload_n dX7_readEvent_117 rfl ?_
            refine q_getI dX7_readEvent_118 fl7_129 (kR7 hS365.1 ta0) c373 ?_
            refine q_putI dX7_readEvent_121 fl7_230 (kR3 hS365.1 ta43) (Or.inl rfl) hS365 ta43 (by show (0 : Int) ≤ v347.toInt ∧ v347.toInt ≤ (240 : Int); exact om_d956ef70 b349) rfl (by decide +kernel) ?_
            intro I379 hS380 e381 f382
            have c383 : I379 a23 3 = v33 := (f382 _ _ (fun q => by have z := ta23; rw [q.1, ta43] at z; exact absurd z (by decide))).trans c368
            have c384 : I379 a43 0 = x1 := (f382 _ _ (fun q => absurd q.2 (by decide))).trans c369
            have c385 : I379 a43 1 = v56 := (f382 _ _ (fun q => absurd q.2 (by decide))).trans c370
            have c386 : I379 a0 15 = v342 := (f382 _ _ (fun q => absurd q.2 (by decide))).trans c371
            have c387 : I379 a0 8 = v344 := (f382 _ _ (fun q => absurd q.2 (by decide))).trans c372
            have c388 : I379 a0 9 = v347 := (f382 _ _ (fun q => absurd q.2 (by decide))).trans c373
            have c389 : I379 a0 2 = v350 := (f382 _ _ (fun q => absurd q.2 (by decide))).trans c374
            have c390 : I379 a0 4 = v353 := (f382 _ _ (fun q => absurd q.2 (by decide))).trans c375
            have c391 : I379 a0 3 = v356 := (f382 _ _ (fun q => by have z := ta0; rw [q.1, ta43] at z; exact absurd z (by decide))).trans c376
            have c392 : I379 a0 6 = v361 := (f382 _ _ (fun q => absurd q.2 (by decide))).trans c377
            have c393 : I379 a43 2 = v344 := (f382 _ _ (fun q => absurd q.2 (by decide))).trans e366
            have hO394 : FrO 2 a23 T I0 I379 := hO378.put f382 ta43 (Or.inl (by decide))
            refine tr_aload_n dX7_readEvent_124 rfl ?_
            refine tr_getR dX7_readEvent_125 fl7_22 (kR7 hS380.1 ta0) d24 ?_
            refine tr_dup dX7_readEvent_128 rfl ?_
            refine q_getI dX7_readEvent_129 fl7_165 (kR2 hS380.1 ta23) c383 ?_
            refine q_iconst dX7_readEvent_132 (by decide) ?_
            intro v395 h396
            refine q_iaddE dX7_readEvent_133 (by intro j1 j2 j3 j4; exact om_c5583028 pre10 b35.2 b35.1 p36 h396) ?_
            intro v397 h398
            refine q_putI dX7_readEvent_134 fl7_165 (kR2 hS380.1 ta23) (Or.inl rfl) hS380 ta23 (by show (0 : Int) ≤ v397.toInt ∧ v397.toInt ≤ (14 : Int); exact om_98c114f7 pre10 b35.2 b35.1 p36 h396 h398) rfl (by decide +kernel) ?_
            intro I399 hS400 e401 f402
            have c403 : I399 a43 0 = x1 := (f402 _ _ (fun q => absurd q.2 (by decide))).trans c384
            have c404 : I399 a43 1 = v56 := (f402 _ _ (fun q => absurd q.2 (by decide))).trans c385
            have c405 : I399 a0 15 = v342 := (f402 _ _ (fun q => absurd q.2 (by decide))).trans c386
            have c406 : I399 a0 8 = v344 := (f402 _ _ (fun q => absurd q.2 (by decide))).trans c387
            have c407 : I399 a0 9 = v347 := (f402 _ _ (fun q => absurd q.2 (by decide))).trans c388
            have c408 : I399 a0 2 = v350 := (f402 _ _ (fun q => absurd q.2 (by decide))).trans c389
            have c409 : I399 a0 4 = v353 := (f402 _ _ (fun q => absurd q.2 (by decide))).trans c390
            have c410 : I399 a0 3 = v356 := (f402 _ _ (fun q => by have z := ta0; rw [q.1, ta23] at z; exact absurd z (by decide))).trans c391
            have c411 : I399 a0 6 = v361 := (f402 _ _ (fun q => absurd q.2 (by decide))).trans c392
            have c412 : I399 a43 2 = v344 := (f402 _ _ (fun q => absurd q.2 (by decide))).trans c393
            have c413 : I399 a43 3 = v347 := (f402 _ _ (fun q => by have z := ta43; rw [q.1, ta23] at z; exact absurd z (by decide))).trans e381
            have hO414 : FrO 2 a23 T I0 I399 := hO394.put f402 ta23 (Or.inr rfl)
            refine q_iconst dX7_readEvent_137 (by decide) ?_
            intro v415 h416
            have es417 : evS gB gQ gk gs = (tkN gB (tkN gB (tkN gB gs))) := by exact om_c511109b pre9 h71 h72 h309 h310 h312 h313 p328 h363
            obtain ⟨v418, c419⟩ : ∃ v, I399 a0 16 = v := ⟨_, rfl⟩
            exact tr_zret hZ dX7_readEvent_138 rfl (ti_b01 (by exact om_f9079521 h416) (by exact om_e6632817 h416)) (by decide) (by decide) ⟨v415, rfl, rfl, rfl, rfl, rfl, hS400, hL327, (by exact om_d753bc65 h416), (fun dr hd => (Option.some.inj (d24.symm.trans hd)) ▸ hO414), (Or.inl ⟨(by (try rw [es417]); first | done | with_reducible assumption | omega), (by (try rw [es417]); (try rw [c405]); (try rw [c40]); first | done | with_reducible assumption | omega), (by (try rw [es417]); first | done | with_reducible assumption | fail | (exact om_857e711d pre9 h71 h72 h309 h310 h312 h313 p328 p330 p331 b346.2 b346.1 h363)), (fun q0 z0 => by obtain rfl := Option.some.inj ((d24).symm.trans z0); (try rw [es417]); (try rw [e401]); first | done | with_reducible assumption | exact om_58c7f992 p36 h396 h398), (by (try rw [es417]); (try rw [c408]); first | done | with_reducible assumption | omega), (by (try rw [es417]); (try rw [c409]); first | done | with_reducible assumption | omega), (by (try rw [es417]); (try rw [c410]); first | done | with_reducible assumption | omega), (by (try rw [es417]); (try rw [c360]); first | done | assumption), (by (try rw [es417]); (try rw [c411]); first | done | assumption), trivial⟩), trivial⟩
          · skip
            exfalso; exact om_3624102b p328 h363
        · skip
          obtain ⟨v420, c421⟩ : ∃ v, I314 a0 15 = v := ⟨_, rfl⟩
          rw [c421] at p340
          obtain ⟨v422, c423⟩ : ∃ v, I314 a0 16 = v := ⟨_, rfl⟩
          rw [c423] at p341
          refine q_if_ne 108 dX7_readEvent_103 (by decide) (fun h424 => ?_) (fun h424 => ?_)
          · skip
            exfalso; exact om_3a97d4a5 p338 h424
          · skip
            refine q_iconst dX7_readEvent_106 (by decide) ?_
            intro v425 h426
            obtain ⟨v427, c428⟩ : ∃ v, I314 a0 2 = v := ⟨_, rfl⟩
            have b429 := iv7_2 hS322.1 ta0 c428
            obtain ⟨v430, c431⟩ : ∃ v, I314 a0 4 = v := ⟨_, rfl⟩
            have b432 := iv7_4 hS322.1 ta0 c431
            obtain ⟨v433, c434⟩ : ∃ v, I314 a0 3 = v := ⟨_, rfl⟩
            have b435 := iv7_3 hS322.1 ta0 c434
            obtain ⟨y436, c437⟩ : ∃ v, L316 a0 5 = v := ⟨_, rfl⟩
            obtain ⟨v438, c439⟩ : ∃ v, I314 a0 6 = v := ⟨_, rfl⟩
            exact tr_zret hZ dX7_readEvent_107 rfl (ti_b01 (by exact om_d99fa9e4 h426) (by exact om_d3de7ec9 h426)) (by decide) (by decide) ⟨v425, rfl, rfl, rfl, rfl, rfl, hS322, hL327, (by exact om_3b50ecb9 h426), (fun dr hd => (Option.some.inj (d24.symm.trans hd)) ▸ hO326), (Or.inr (⟨(by first | done | with_reducible assumption | omega), (by first | done | with_reducible assumption | fail | (exact om_7655a99f pre9 h71 h72 h309 h310 h312 h313 p339)), (by (try rw [c421]); first | done | with_reducible assumption | fail | (exact om_8027147e pre9 h71 h72 h309 h310 h312 h313 p339 p340)), (by (try rw [c423]); first | done | with_reducible assumption | fail | (exact om_b09d499e pre9 h71 h72 h309 h310 h312 h313 p339 p341)), trivial⟩)), trivial⟩
      · skip
        refine tr_aload_n dX7_readEvent_59 rfl ?_
        refine q_iconst dX7_readEvent_60 (by decide) ?_
        intro v440 h441
        refine tr_aload_n dX7_readEvent_61 rfl ?_
        refine tr_getR dX7_readEvent_62 fl7_22 (kR7 hS59.1 ta0) d24 ?_
        refine q_getI dX7_readEvent_65 fl7_118 (kR2 hS59.1 ta23) ((hS59.cell ta23 (by decide +kernel)).trans c26) ?_
        refine q_iconst dX7_readEvent_68 (by decide) ?_
        intro v442 h443
        refine q_isubE dX7_readEvent_69 (by intro j1 j2 j3 j4; exact om_37812ee5 b27.2 b27.1 p28 h443) ?_
        intro v444 h445
        refine q_callVi hE (M' := mX7_takeWhole) (as := [_, _]) dX7_readEvent_70 lk7_115 inX7_takeWhole seX7_takeWhole myX7_takeWhole (by decide) ⟨by decide, by decide⟩ rfl (kR7 hS59.1 ta0) (Nat.le_of_ble_eq_true rfl) rfl rfl (by decide) (by decide) (fk_X7_takeWhole hS59.1 (gB) (gs) ta0 (by exact om_9ed8f7f4 h441) (by exact om_fc024398 b27.2 b27.1 p28 h443 h445) (TxA.kp hT hS59 ta0 rfl rfl rfl (by decide +kernel) (by decide +kernel)) (by (try rw [c62]); first | done | with_reducible assumption | omega) (by (try rw [c63]); first | done | with_reducible assumption | omega) (by (try rw [c64]); first | done | with_reducible assumption | omega) (by (try rw [c14]); first | done | assumption) (by (try rw [c65]); first | done | assumption) (by (try rw [((hS59.cell ta0 (by decide +kernel)).trans c20)]); first | done | with_reducible assumption | omega)) ?_
        rintro v451 cn' K' N' I446 R447 L448 ⟨rfl, rfl, rfl, rfl, g449, gl450, h452, dj453, -⟩
        have hS454 := hS59.tr g449 (by decide +kernel) (by decide +kernel)
        have c455 : I446 a23 3 = v33 := (g449.cell ta23 (by decide +kernel)).trans c66
        have c456 : I446 a43 0 = x1 := (g449.cell ta43 (by decide +kernel)).trans c68
        have c457 : I446 a43 1 = v56 := (g449.cell ta43 (by decide +kernel)).trans e60
        have hO458 : FrO 2 a23 T I0 I446 := hO69.st g449 (by decide +kernel)
        have hL459 := hL0.tr gl450 (by decide +kernel)
        rcases dj453 with ⟨p460, p461, p462, p463, p464, p465, p466, p467, p468, p469, p470, -⟩ | ⟨p471, p472, p473, p474, -⟩ | ⟨p475, p476, p477, p478, p479, -⟩
        · skip
          obtain ⟨v480, c481⟩ : ∃ v, I446 a0 15 = v := ⟨_, rfl⟩
          rw [c481] at p461
          rw [c67] at p461
          obtain ⟨v482, c483⟩ : ∃ v, I446 a0 7 = v := ⟨_, rfl⟩
          have b484 := iv7_7 hS454.1 ta0 c483
          rw [c483] at p465
          obtain ⟨v485, c486⟩ : ∃ v, I446 a0 2 = v := ⟨_, rfl⟩
          have b487 := iv7_2 hS454.1 ta0 c486
          rw [c486] at p466
          obtain ⟨v488, c489⟩ : ∃ v, I446 a0 4 = v := ⟨_, rfl⟩
          have b490 := iv7_4 hS454.1 ta0 c489
          rw [c489] at p467
          obtain ⟨v491, c492⟩ : ∃ v, I446 a0 3 = v := ⟨_, rfl⟩
          have b493 := iv7_3 hS454.1 ta0 c492
          rw [c492] at p468
          obtain ⟨y494, c495⟩ : ∃ v, L448 a0 5 = v := ⟨_, rfl⟩
          rw [c495] at p469
          obtain ⟨v496, c497⟩ : ∃ v, I446 a0 6 = v := ⟨_, rfl⟩
          rw [c497] at p470
          refine q_if_ne 78 dX7_readEvent_73 (by decide) (fun h498 => ?_) (fun h498 => ?_)
          · skip
            refine tr_aload_n dX7_readEvent_78 rfl ?_
            refine tr_aload_n dX7_readEvent_79 rfl ?_
            refine q_getI dX7_readEvent_80 fl7_109 (kR7 hS454.1 ta0) c483 ?_
            refine q_putI dX7_readEvent_83 fl7_121 (kR7 hS454.1 ta0) (Or.inl rfl) hS454 ta0 (by show (0 : Int) ≤ v482.toInt ∧ v482.toInt ≤ (240 : Int); exact om_d956ef70 b484) rfl (by decide +kernel) ?_
            intro I499 hS500 e501 f502
            have c503 : I499 a23 3 = v33 := (f502 _ _ (fun q => absurd q.2 (by decide))).trans c455
            have c504 : I499 a43 0 = x1 := (f502 _ _ (fun q => absurd q.2 (by decide))).trans c456
            have c505 : I499 a43 1 = v56 := (f502 _ _ (fun q => absurd q.2 (by decide))).trans c457
            have c506 : I499 a0 15 = v480 := (f502 _ _ (fun q => absurd q.2 (by decide))).trans c481
            have c507 : I499 a0 7 = v482 := (f502 _ _ (fun q => absurd q.2 (by decide))).trans c483
            have c508 : I499 a0 2 = v485 := (f502 _ _ (fun q => absurd q.2 (by decide))).trans c486
            have c509 : I499 a0 4 = v488 := (f502 _ _ (fun q => absurd q.2 (by decide))).trans c489
            have c510 : I499 a0 3 = v491 := (f502 _ _ (fun q => absurd q.2 (by decide))).trans c492
            have c511 : I499 a0 6 = v496 := (f502 _ _ (fun q => absurd q.2 (by decide))).trans c497
            have hO512 : FrO 2 a23 T I0 I499 := hO458.put f502 ta0 (Or.inl (by decide))
            refine tr_aload_n dX7_readEvent_86 rfl ?_
            refine tr_aload_n dX7_readEvent_87 rfl ?_
            refine q_getI dX7_readEvent_88 fl7_109 (kR7 hS500.1 ta0) c507 ?_
            refine q_iconst dX7_readEvent_91 (by decide) ?_
            intro v513 h514
            refine q_iaddE dX7_readEvent_92 (by intro j1 j2 j3 j4; exact om_67e9a63b b27.2 b27.1 p28 h441 h443 h445 p463 p464 p465 b484.2 h514) ?_
            intro v515 h516
            refine q_putI dX7_readEvent_93 fl7_129 (kR7 hS500.1 ta0) (Or.inl rfl) hS500 ta0 (by show (0 : Int) ≤ v515.toInt ∧ v515.toInt ≤ (240 : Int); exact om_e7a0c29f b27.2 b27.1 p28 h441 h443 h445 p463 p464 p465 b484.2 h514 h516) rfl (by decide +kernel) ?_
            intro I517 hS518 e519 f520
            have c521 : I517 a23 3 = v33 := (f520 _ _ (fun q => absurd q.2 (by decide))).trans c503
            have c522 : I517 a43 0 = x1 := (f520 _ _ (fun q => absurd q.2 (by decide))).trans c504
            have c523 : I517 a43 1 = v56 := (f520 _ _ (fun q => absurd q.2 (by decide))).trans c505
            have c524 : I517 a0 15 = v480 := (f520 _ _ (fun q => absurd q.2 (by decide))).trans c506
            have c525 : I517 a0 7 = v482 := (f520 _ _ (fun q => absurd q.2 (by decide))).trans c507
            have c526 : I517 a0 2 = v485 := (f520 _ _ (fun q => absurd q.2 (by decide))).trans c508
            have c527 : I517 a0 4 = v488 := (f520 _ _ (fun q => absurd q.2 (by decide))).trans c509
            have c528 : I517 a0 3 = v491 := (f520 _ _ (fun q => absurd q.2 (by decide))).trans c510
            have c529 : I517 a0 6 = v496 := (f520 _ _ (fun q => absurd q.2 (by decide))).trans c511
            have c530 : I517 a0 8 = v482 := (f520 _ _ (fun q => absurd q.2 (by decide))).trans e501
            have hO531 : FrO 2 a23 T I0 I517 := hO512.put f520 ta0 (Or.inl (by decide))
            refine tr_goto 108 dX7_readEvent_96 (by decide) ?_
            refine tr_aload_n dX7_readEvent_108 rfl ?_
            refine tr_aload_n dX7_readEvent_109 rfl ?_
            refine q_getI dX7_readEvent_110 fl7_121 (kR7 hS518.1 ta0) c530 ?_
            refine q_putI dX7_readEvent_113 fl7_229 (kR3 hS518.1 ta43) (Or.inl rfl) hS518 ta43 (by show (0 : Int) ≤ v482.toInt ∧ v482.toInt ≤ (240 : Int); exact om_d956ef70 b484) rfl (by decide +kernel) ?_
            intro I532 hS533 e534 f535
            have c536 : I532 a23 3 = v33 := (f535 _ _ (fun q => absurd q.2 (by decide))).trans c521
            have c537 : I532 a43 0 = x1 := (f535 _ _ (fun q => absurd q.2 (by decide))).trans c522
            have c538 : I532 a43 1 = v56 := (f535 _ _ (fun q => absurd q.2 (by decide))).trans c523
            have c539 : I532 a0 15 = v480 := (f535 _ _ (fun q => absurd q.2 (by decide))).trans c524
            have c540 : I532 a0 7 = v482 := (f535 _ _ (fun q => absurd q.2 (by decide))).trans c525
            have c541 : I532 a0 2 = v485 := (f535 _ _ (fun q => by have z := ta0; rw [q.1, ta43] at z; exact absurd z (by decide))).trans c526
            have c542 : I532 a0 4 = v488 := (f535 _ _ (fun q => absurd q.2 (by decide))).trans c527
            have c543 : I532 a0 3 = v491 := (f535 _ _ (fun q => absurd q.2 (by decide))).trans c528
            have c544 : I532 a0 6 = v496 := (f535 _ _ (fun q => absurd q.2 (by decide))).trans c529
            have c545 : I532 a0 8 = v482 := (f535 _ _ (fun q => absurd q.2 (by decide))).trans c530
            have c546 : I532 a0 9 = v515 := (f535 _ _ (fun q => absurd q.2 (by decide))).trans e519
            have hO547 : FrO 2 a23 T I0 I532 := hO531.put f535 ta43 (Or.inl (by decide))
            refine tr_aload_n dX7_readEvent_116 rfl ?_
            refine tr_aload_n dX7_readEvent_117 rfl ?_
            refine q_getI dX7_readEvent_118 fl7_129 (kR7 hS533.1 ta0) c546 ?_
            refine q_putI dX7_readEvent_121 fl7_230 (kR3 hS533.1 ta43) (Or.inl rfl) hS533 ta43 (by show (0 : Int) ≤ v515.toInt ∧ v515.toInt ≤ (240 : Int); exact om_e7a0c29f b27.2 b27.1 p28 h441 h443 h445 p463 p464 p465 b484.2 h514 h516) rfl (by decide +kernel) ?_
            intro I548 hS549 e550 f551
            have c552 : I548 a23 3 = v33 := (f551 _ _ (fun q => by have z := ta23; rw [q.1, ta43] at z; exact absurd z (by decide))).trans c536
            have c553 : I548 a43 0 = x1 := (f551 _ _ (fun q => absurd q.2 (by decide))).trans c537
            have c554 : I548 a43 1 = v56 := (f551 _ _ (fun q => absurd q.2 (by decide))).trans c538
            have c555 : I548 a0 15 = v480 := (f551 _ _ (fun q => absurd q.2 (by decide))).trans c539
            have c556 : I548 a0 7 = v482 := (f551 _ _ (fun q => absurd q.2 (by decide))).trans c540
            have c557 : I548 a0 2 = v485 := (f551 _ _ (fun q => absurd q.2 (by decide))).trans c541
            have c558 : I548 a0 4 = v488 := (f551 _ _ (fun q => absurd q.2 (by decide))).trans c542
            have c559 : I548 a0 3 = v491 := (f551 _ _ (fun q => by have z := ta0; rw [q.1, ta43] at z; exact absurd z (by decide))).trans c543
            have c560 : I548 a0 6 = v496 := (f551 _ _ (fun q => absurd q.2 (by decide))).trans c544
            have c561 : I548 a0 8 = v482 := (f551 _ _ (fun q => absurd q.2 (by decide))).trans c545
            have c562 : I548 a0 9 = v515 := (f551 _ _ (fun q => absurd q.2 (by decide))).trans c546
            have c563 : I548 a43 2 = v482 := (f551 _ _ (fun q => absurd q.2 (by decide))).trans e534
            have hO564 : FrO 2 a23 T I0 I548 := hO547.put f551 ta43 (Or.inl (by decide))
            refine tr_aload_n dX7_readEvent_124 rfl ?_
            refine tr_getR dX7_readEvent_125 fl7_22 (kR7 hS549.1 ta0) d24 ?_
            refine tr_dup dX7_readEvent_128 rfl ?_
            refine q_getI dX7_readEvent_129 fl7_165 (kR2 hS549.1 ta23) c552 ?_
            refine q_iconst dX7_readEvent_132 (by decide) ?_
            intro v565 h566
            refine q_iaddE dX7_readEvent_133 (by intro j1 j2 j3 j4; exact om_c5583028 pre10 b35.2 b35.1 p36 h566) ?_
            intro v567 h568
            refine q_putI dX7_readEvent_134 fl7_165 (kR2 hS549.1 ta23) (Or.inl rfl) hS549 ta23 (by show (0 : Int) ≤ v567.toInt ∧ v567.toInt ≤ (14 : Int); exact om_98c114f7 pre10 b35.2 b35.1 p36 h566 h568) rfl (by decide +kernel) ?_
            intro I569 hS570 e571 f572
            have c573 : I569 a43 0 = x1 := (f572 _ _ (fun q => absurd q.2 (by decide))).trans c553
            have c574 : I569 a43 1 = v56 := (f572 _ _ (fun q => absurd q.2 (by decide))).trans c554
            have c575 : I569 a0 15 = v480 := (f572 _ _ (fun q => absurd q.2 (by decide))).trans c555
            have c576 : I569 a0 7 = v482 := (f572 _ _ (fun q => absurd q.2 (by decide))).trans c556
            have c577 : I569 a0 2 = v485 := (f572 _ _ (fun q => absurd q.2 (by decide))).trans c557
            have c578 : I569 a0 4 = v488 := (f572 _ _ (fun q => absurd q.2 (by decide))).trans c558
            have c579 : I569 a0 3 = v491 := (f572 _ _ (fun q => by have z := ta0; rw [q.1, ta23] at z; exact absurd z (by decide))).trans c559
            have c580 : I569 a0 6 = v496 := (f572 _ _ (fun q => absurd q.2 (by decide))).trans c560
            have c581 : I569 a0 8 = v482 := (f572 _ _ (fun q => absurd q.2 (by decide))).trans c561
            have c582 : I569 a0 9 = v515 := (f572 _ _ (fun q => absurd q.2 (by decide))).trans c562
            have c583 : I569 a43 2 = v482 := (f572 _ _ (fun q => absurd q.2 (by decide))).trans c563
            have c584 : I569 a43 3 = v515 := (f572 _ _ (fun q => by have z := ta43; rw [q.1, ta23] at z; exact absurd z (by decide))).trans e550
            have hO585 : FrO 2 a23 T I0 I569 := hO564.put f572 ta23 (Or.inr rfl)
            refine q_iconst dX7_readEvent_137 (by decide) ?_
            intro v586 h587
            have es588 : evS gB gQ gk gs = (tkN gB gs) := by exact om_157c5f6e pre9 h312 h313
            obtain ⟨v589, c590⟩ : ∃ v, I569 a0 16 = v := ⟨_, rfl⟩
            exact tr_zret hZ dX7_readEvent_138 rfl (ti_b01 (by exact om_f9079521 h587) (by exact om_e6632817 h587)) (by decide) (by decide) ⟨v586, rfl, rfl, rfl, rfl, rfl, hS570, hL459, (by exact om_d753bc65 h587), (fun dr hd => (Option.some.inj (d24.symm.trans hd)) ▸ hO585), (Or.inl ⟨(by (try rw [es588]); first | done | with_reducible assumption | omega), (by (try rw [es588]); (try rw [c575]); (try rw [c40]); first | done | with_reducible assumption | omega), (by (try rw [es588]); first | done | with_reducible assumption | fail | (exact om_e86dd236 pre9 p28 h312 h313 h441 h443 h445 p462 p463 p464 p465 b484.2 h514 h516)), (fun q0 z0 => by obtain rfl := Option.some.inj ((d24).symm.trans z0); (try rw [es588]); (try rw [e571]); first | done | with_reducible assumption | exact om_58c7f992 p36 h566 h568), (by (try rw [es588]); (try rw [c577]); first | done | with_reducible assumption | omega), (by (try rw [es588]); (try rw [c578]); first | done | with_reducible assumption | omega), (by (try rw [es588]); (try rw [c579]); first | done | with_reducible assumption | omega), (by (try rw [es588]); (try rw [c495]); first | done | assumption), (by (try rw [es588]); (try rw [c580]); first | done | assumption), trivial⟩), trivial⟩
          · skip
            exfalso; exact om_3624102b p460 h498
        · skip
          obtain ⟨v591, c592⟩ : ∃ v, I446 a0 15 = v := ⟨_, rfl⟩
          rw [c592] at p473
          obtain ⟨v593, c594⟩ : ∃ v, I446 a0 16 = v := ⟨_, rfl⟩
          rw [c594] at p474
          refine q_if_ne 78 dX7_readEvent_73 (by decide) (fun h595 => ?_) (fun h595 => ?_)
          · skip
            exfalso; exact om_3a97d4a5 p471 h595
          · skip
            refine q_iconst dX7_readEvent_76 (by decide) ?_
            intro v596 h597
            obtain ⟨v598, c599⟩ : ∃ v, I446 a0 2 = v := ⟨_, rfl⟩
            have b600 := iv7_2 hS454.1 ta0 c599
            obtain ⟨v601, c602⟩ : ∃ v, I446 a0 4 = v := ⟨_, rfl⟩
            have b603 := iv7_4 hS454.1 ta0 c602
            obtain ⟨v604, c605⟩ : ∃ v, I446 a0 3 = v := ⟨_, rfl⟩
            have b606 := iv7_3 hS454.1 ta0 c605
            obtain ⟨y607, c608⟩ : ∃ v, L448 a0 5 = v := ⟨_, rfl⟩
            obtain ⟨v609, c610⟩ : ∃ v, I446 a0 6 = v := ⟨_, rfl⟩
            exact tr_zret hZ dX7_readEvent_77 rfl (ti_b01 (by exact om_d99fa9e4 h597) (by exact om_d3de7ec9 h597)) (by decide) (by decide) ⟨v596, rfl, rfl, rfl, rfl, rfl, hS454, hL459, (by exact om_3b50ecb9 h597), (fun dr hd => (Option.some.inj (d24.symm.trans hd)) ▸ hO458), (Or.inr (⟨(by first | done | with_reducible assumption | omega), (by first | done | with_reducible assumption | fail | (exact om_6e480f55 pre9 h312 h313 p472)), (by (try rw [c592]); first | done | with_reducible assumption | fail | (exact om_3621b099 pre9 h312 h313 p472 p473)), (by (try rw [c594]); first | done | with_reducible assumption | fail | (exact om_5b2c9cb3 pre9 h312 h313 p472 p474)), trivial⟩)), trivial⟩
        · skip
          obtain ⟨v611, c612⟩ : ∃ v, I446 a0 15 = v := ⟨_, rfl⟩
          rw [c612] at p478
          obtain ⟨v613, c614⟩ : ∃ v, I446 a0 16 = v := ⟨_, rfl⟩
          rw [c614] at p479
          refine q_if_ne 78 dX7_readEvent_73 (by decide) (fun h615 => ?_) (fun h615 => ?_)
          · skip
            exfalso; exact om_3a97d4a5 p475 h615
          · skip
            refine q_iconst dX7_readEvent_76 (by decide) ?_
            intro v616 h617
            obtain ⟨v618, c619⟩ : ∃ v, I446 a0 2 = v := ⟨_, rfl⟩
            have b620 := iv7_2 hS454.1 ta0 c619
            obtain ⟨v621, c622⟩ : ∃ v, I446 a0 4 = v := ⟨_, rfl⟩
            have b623 := iv7_4 hS454.1 ta0 c622
            obtain ⟨v624, c625⟩ : ∃ v, I446 a0 3 = v := ⟨_, rfl⟩
            have b626 := iv7_3 hS454.1 ta0 c625
            obtain ⟨y627, c628⟩ : ∃ v, L448 a0 5 = v := ⟨_, rfl⟩
            obtain ⟨v629, c630⟩ : ∃ v, I446 a0 6 = v := ⟨_, rfl⟩
            exact tr_zret hZ dX7_readEvent_77 rfl (ti_b01 (by exact om_d99fa9e4 h617) (by exact om_d3de7ec9 h617)) (by decide) (by decide) ⟨v616, rfl, rfl, rfl, rfl, rfl, hS454, hL459, (by exact om_3b50ecb9 h617), (fun dr hd => (Option.some.inj (d24.symm.trans hd)) ▸ hO458), (Or.inr (⟨(by first | done | with_reducible assumption | omega), (by first | done | with_reducible assumption | fail | (exact om_ca6f9dd3 pre9 p28 h312 h313 h441 h443 h445 p476 p477)), (by (try rw [c612]); first | done | with_reducible assumption | fail | (exact om_5e86e674 pre9 p28 h312 h313 h441 h443 h445 p476 p477 p478)), (by (try rw [c614]); first | done | with_reducible assumption | fail | (exact om_f870d4d5 pre9 b7.2 b7.1 p8 p28 h312 h313 h441 h443 h445 p476 p477 p479)), trivial⟩)), trivial⟩
    · skip
      refine tr_aload_n dX7_readEvent_37 rfl ?_
      refine q_callVi hE (M' := mX7_takeHut) (as := []) dX7_readEvent_38 lk7_223 inX7_takeHut seX7_takeHut myX7_takeHut (by decide) ⟨by decide, by decide⟩ rfl (kR7 hS59.1 ta0) (Nat.le_of_ble_eq_true rfl) rfl rfl (by decide) (by decide) (fk_X7_takeHut hS59.1 (gB) (gs) (gQ) ta0 (TxA.kp hT hS59 ta0 rfl rfl rfl (by decide +kernel) (by decide +kernel)) (by (try rw [c62]); first | done | with_reducible assumption | omega) (by (try rw [c63]); first | done | with_reducible assumption | omega) (by (try rw [c64]); first | done | with_reducible assumption | omega) (by (try rw [c14]); first | done | assumption) (by (try rw [c65]); first | done | assumption) (by (try rw [((hS59.cell ta0 (by decide +kernel)).trans c20)]); first | done | with_reducible assumption | omega) (fun q0 z0 => by obtain rfl := Option.some.inj ((d24).symm.trans z0); (try rw [((hS59.cell ta23 (by decide +kernel)).trans c30)]); first | done | with_reducible assumption | omega)) ?_
      rintro v636 cn' K' N' I631 R632 L633 ⟨rfl, rfl, rfl, rfl, g634, gl635, h637, dj638, -⟩
      have hS639 := hS59.tr g634 (by decide +kernel) (by decide +kernel)
      have c640 : I631 a23 3 = v33 := (g634.cell ta23 (by decide +kernel)).trans c66
      have c641 : I631 a43 0 = x1 := (g634.cell ta43 (by decide +kernel)).trans c68
      have c642 : I631 a43 1 = v56 := (g634.cell ta43 (by decide +kernel)).trans e60
      have hO643 : FrO 2 a23 T I0 I631 := hO69.st g634 (by decide +kernel)
      have hL644 := hL0.tr gl635 (by decide +kernel)
      rcases dj638 with ⟨p645, p646, p647, p648, p649, p650, p651, p652, p653, p654, p655, -⟩ | ⟨p656, p657, p658, p659, -⟩ | ⟨p660, p661, p662, p663, p664, -⟩
      · skip
        obtain ⟨v665, c666⟩ : ∃ v, I631 a0 15 = v := ⟨_, rfl⟩
        rw [c666] at p646
        rw [c67] at p646
        obtain ⟨v667, c668⟩ : ∃ v, I631 a0 7 = v := ⟨_, rfl⟩
        have b669 := iv7_7 hS639.1 ta0 c668
        rw [c668] at p650
        obtain ⟨v670, c671⟩ : ∃ v, I631 a0 2 = v := ⟨_, rfl⟩
        have b672 := iv7_2 hS639.1 ta0 c671
        rw [c671] at p651
        obtain ⟨v673, c674⟩ : ∃ v, I631 a0 4 = v := ⟨_, rfl⟩
        have b675 := iv7_4 hS639.1 ta0 c674
        rw [c674] at p652
        obtain ⟨v676, c677⟩ : ∃ v, I631 a0 3 = v := ⟨_, rfl⟩
        have b678 := iv7_3 hS639.1 ta0 c677
        rw [c677] at p653
        obtain ⟨y679, c680⟩ : ∃ v, L633 a0 5 = v := ⟨_, rfl⟩
        rw [c680] at p654
        obtain ⟨v681, c682⟩ : ∃ v, I631 a0 6 = v := ⟨_, rfl⟩
        rw [c682] at p655
        refine q_if_ne 46 dX7_readEvent_41 (by decide) (fun h683 => ?_) (fun h683 => ?_)
        · skip
          refine tr_aload_n dX7_readEvent_46 rfl ?_
          refine tr_aload_n dX7_readEvent_47 rfl ?_
          refine q_getI dX7_readEvent_48 fl7_109 (kR7 hS639.1 ta0) c668 ?_
          refine q_putI dX7_readEvent_51 fl7_220 (kR3 hS639.1 ta43) (Or.inl rfl) hS639 ta43 (iokF rfl) rfl (by decide +kernel) ?_
          intro I684 hS685 e686 f687
          have c688 : I684 a23 3 = v33 := (f687 _ _ (fun q => absurd q.2 (by decide))).trans c640
          have c689 : I684 a43 0 = x1 := (f687 _ _ (fun q => absurd q.2 (by decide))).trans c641
          have c690 : I684 a0 15 = v665 := (f687 _ _ (fun q => absurd q.2 (by decide))).trans c666
          have c691 : I684 a0 7 = v667 := (f687 _ _ (fun q => absurd q.2 (by decide))).trans c668
          have c692 : I684 a0 2 = v670 := (f687 _ _ (fun q => absurd q.2 (by decide))).trans c671
          have c693 : I684 a0 4 = v673 := (f687 _ _ (fun q => absurd q.2 (by decide))).trans c674
          have c694 : I684 a0 3 = v676 := (f687 _ _ (fun q => absurd q.2 (by decide))).trans c677
          have c695 : I684 a0 6 = v681 := (f687 _ _ (fun q => absurd q.2 (by decide))).trans c682
          have hO696 : FrO 2 a23 T I0 I684 := hO643.put f687 ta43 (Or.inl (by decide))
          refine tr_iload_n dX7_readEvent_54 rfl ?_
          refine q_iconst dX7_readEvent_55 (by decide) ?_
          intro v697 h698
          refine q_icmp_ne 99 dX7_readEvent_56 (by decide) (fun h699 => ?_) (fun h699 => ?_)
          · skip
            refine tr_aload_n dX7_readEvent_99 rfl ?_
            refine q_callVi hE (M' := mX7_takeSpan) (as := []) dX7_readEvent_100 lk7_226 inX7_takeSpan seX7_takeSpan myX7_takeSpan (by decide) ⟨by decide, by decide⟩ rfl (kR7 hS685.1 ta0) (Nat.le_of_ble_eq_true rfl) rfl rfl (by decide) (by decide) (fk_X7_takeSpan hS685.1 (gB) ((tkN gB gs)) (gQ) ta0 (TxA.kp hT hS685 ta0 rfl rfl rfl (by decide +kernel) (by decide +kernel)) (by (try rw [c692]); first | done | with_reducible assumption | omega) (by (try rw [c693]); first | done | with_reducible assumption | omega) (by (try rw [c694]); first | done | with_reducible assumption | omega) (by (try rw [c680]); first | done | assumption) (by (try rw [c695]); first | done | assumption) (by (try rw [((hS685.cell ta0 (by decide +kernel)).trans c20)]); first | done | with_reducible assumption | omega) (fun q0 z0 => by obtain rfl := Option.some.inj ((d24).symm.trans z0); (try rw [((hS685.cell ta23 (by decide +kernel)).trans c26)]); first | done | with_reducible assumption | omega)) ?_
            rintro v705 cn' K' N' I700 R701 L702 ⟨rfl, rfl, rfl, rfl, g703, gl704, h706, dj707, -⟩
            have hS708 := hS685.tr g703 (by decide +kernel) (by decide +kernel)
            have c709 : I700 a23 3 = v33 := (g703.cell ta23 (by decide +kernel)).trans c688
            have c710 : I700 a43 0 = x1 := (g703.cell ta43 (by decide +kernel)).trans c689
            have c711 : I700 a43 1 = v667 := (g703.cell ta43 (by decide +kernel)).trans e686
            have hO712 : FrO 2 a23 T I0 I700 := hO696.st g703 (by decide +kernel)
            have hL713 := hL644.tr gl704 (by decide +kernel)
            rcases dj707 with ⟨p714, p715, p716, p717, p718, p719, p720, p721, p722, p723, -⟩ | ⟨p724, p725, p726, p727, -⟩
            · skip
              obtain ⟨v728, c729⟩ : ∃ v, I700 a0 15 = v := ⟨_, rfl⟩
              rw [c729] at p715
              rw [c690] at p715
              obtain ⟨v730, c731⟩ : ∃ v, I700 a0 8 = v := ⟨_, rfl⟩
              have b732 := iv7_8 hS708.1 ta0 c731
              rw [c731] at p717
              obtain ⟨v733, c734⟩ : ∃ v, I700 a0 9 = v := ⟨_, rfl⟩
              have b735 := iv7_9 hS708.1 ta0 c734
              rw [c734] at p718
              obtain ⟨v736, c737⟩ : ∃ v, I700 a0 2 = v := ⟨_, rfl⟩
              have b738 := iv7_2 hS708.1 ta0 c737
              rw [c737] at p719
              obtain ⟨v739, c740⟩ : ∃ v, I700 a0 4 = v := ⟨_, rfl⟩
              have b741 := iv7_4 hS708.1 ta0 c740
              rw [c740] at p720
              obtain ⟨v742, c743⟩ : ∃ v, I700 a0 3 = v := ⟨_, rfl⟩
              have b744 := iv7_3 hS708.1 ta0 c743
              rw [c743] at p721
              obtain ⟨y745, c746⟩ : ∃ v, L702 a0 5 = v := ⟨_, rfl⟩
              rw [c746] at p722
              obtain ⟨v747, c748⟩ : ∃ v, I700 a0 6 = v := ⟨_, rfl⟩
              rw [c748] at p723
              refine q_if_ne 108 dX7_readEvent_103 (by decide) (fun h749 => ?_) (fun h749 => ?_)
              · skip
                refine tr_aload_n dX7_readEvent_108 rfl ?_
                refine tr_aload_n dX7_readEvent_109 rfl ?_
                refine q_getI dX7_readEvent_110 fl7_121 (kR7 hS708.1 ta0) c731 ?_
                refine q_putI dX7_readEvent_113 fl7_229 (kR3 hS708.1 ta43) (Or.inl rfl) hS708 ta43 (by show (0 : Int) ≤ v730.toInt ∧ v730.toInt ≤ (240 : Int); exact om_d956ef70 b732) rfl (by decide +kernel) ?_
                intro I750 hS751 e752 f753
                have c754 : I750 a23 3 = v33 := (f753 _ _ (fun q => absurd q.2 (by decide))).trans c709
                have c755 : I750 a43 0 = x1 := (f753 _ _ (fun q => absurd q.2 (by decide))).trans c710
                have c756 : I750 a43 1 = v667 := (f753 _ _ (fun q => absurd q.2 (by decide))).trans c711
                have c757 : I750 a0 15 = v728 := (f753 _ _ (fun q => absurd q.2 (by decide))).trans c729
                have c758 : I750 a0 8 = v730 := (f753 _ _ (fun q => absurd q.2 (by decide))).trans c731
                have c759 : I750 a0 9 = v733 := (f753 _ _ (fun q => absurd q.2 (by decide))).trans c734
                have c760 : I750 a0 2 = v736 := (f753 _ _ (fun q => by have z := ta0; rw [q.1, ta43] at z; exact absurd z (by decide))).trans c737
                have c761 : I750 a0 4 = v739 := (f753 _ _ (fun q => absurd q.2 (by decide))).trans c740
                have c762 : I750 a0 3 = v742 := (f753 _ _ (fun q => absurd q.2 (by decide))).trans c743
                have c763 : I750 a0 6 = v747 := (f753 _ _ (fun q => absurd q.2 (by decide))).trans c748
                have hO764 : FrO 2 a23 T I0 I750 := hO712.put f753 ta43 (Or.inl (by decide))
                refine tr_aload_n dX7_readEvent_116 rfl ?_
                refine tr_aload_n dX7_readEvent_117 rfl ?_
                refine q_getI dX7_readEvent_118 fl7_129 (kR7 hS751.1 ta0) c759 ?_
                refine q_putI dX7_readEvent_121 fl7_230 (kR3 hS751.1 ta43) (Or.inl rfl) hS751 ta43 (by show (0 : Int) ≤ v733.toInt ∧ v733.toInt ≤ (240 : Int); exact om_d956ef70 b735) rfl (by decide +kernel) ?_
                intro I765 hS766 e767 f768
                have c769 : I765 a23 3 = v33 := (f768 _ _ (fun q => by have z := ta23; rw [q.1, ta43] at z; exact absurd z (by decide))).trans c754
                have c770 : I765 a43 0 = x1 := (f768 _ _ (fun q => absurd q.2 (by decide))).trans c755
                have c771 : I765 a43 1 = v667 := (f768 _ _ (fun q => absurd q.2 (by decide))).trans c756
                have c772 : I765 a0 15 = v728 := (f768 _ _ (fun q => absurd q.2 (by decide))).trans c757
                have c773 : I765 a0 8 = v730 := (f768 _ _ (fun q => absurd q.2 (by decide))).trans c758
                have c774 : I765 a0 9 = v733 := (f768 _ _ (fun q => absurd q.2 (by decide))).trans c759
                have c775 : I765 a0 2 = v736 := (f768 _ _ (fun q => absurd q.2 (by decide))).trans c760
                have c776 : I765 a0 4 = v739 := (f768 _ _ (fun q => absurd q.2 (by decide))).trans c761
                have c777 : I765 a0 3 = v742 := (f768 _ _ (fun q => by have z := ta0; rw [q.1, ta43] at z; exact absurd z (by decide))).trans c762
                have c778 : I765 a0 6 = v747 := (f768 _ _ (fun q => absurd q.2 (by decide))).trans c763
                have c779 : I765 a43 2 = v730 := (f768 _ _ (fun q => absurd q.2 (by decide))).trans e752
                have hO780 : FrO 2 a23 T I0 I765 := hO764.put f768 ta43 (Or.inl (by decide))
                refine tr_aload_n dX7_readEvent_124 rfl ?_
                refine tr_getR dX7_readEvent_125 fl7_22 (kR7 hS766.1 ta0) d24 ?_
                refine tr_dup dX7_readEvent_128 rfl ?_
                refine q_getI dX7_readEvent_129 fl7_165 (kR2 hS766.1 ta23) c769 ?_
                refine q_iconst dX7_readEvent_132 (by decide) ?_
                intro v781 h782
                refine q_iaddE dX7_readEvent_133 (by intro j1 j2 j3 j4; exact om_c5583028 pre10 b35.2 b35.1 p36 h782) ?_
                intro v783 h784
                refine q_putI dX7_readEvent_134 fl7_165 (kR2 hS766.1 ta23) (Or.inl rfl) hS766 ta23 (by show (0 : Int) ≤ v783.toInt ∧ v783.toInt ≤ (14 : Int); exact om_98c114f7 pre10 b35.2 b35.1 p36 h782 h784) rfl (by decide +kernel) ?_
                intro I785 hS786 e787 f788
                have c789 : I785 a43 0 = x1 := (f788 _ _ (fun q => absurd q.2 (by decide))).trans c770
                have c790 : I785 a43 1 = v667 := (f788 _ _ (fun q => absurd q.2 (by decide))).trans c771
                have c791 : I785 a0 15 = v728 := (f788 _ _ (fun q => absurd q.2 (by decide))).trans c772
                have c792 : I785 a0 8 = v730 := (f788 _ _ (fun q => absurd q.2 (by decide))).trans c773
                have c793 : I785 a0 9 = v733 := (f788 _ _ (fun q => absurd q.2 (by decide))).trans c774
                have c794 : I785 a0 2 = v736 := (f788 _ _ (fun q => absurd q.2 (by decide))).trans c775
                have c795 : I785 a0 4 = v739 := (f788 _ _ (fun q => absurd q.2 (by decide))).trans c776
                have c796 : I785 a0 3 = v742 := (f788 _ _ (fun q => by have z := ta0; rw [q.1, ta23] at z; exact absurd z (by decide))).trans c777
                have c797 : I785 a0 6 = v747 := (f788 _ _ (fun q => absurd q.2 (by decide))).trans c778
                have c798 : I785 a43 2 = v730 := (f788 _ _ (fun q => absurd q.2 (by decide))).trans c779
                have c799 : I785 a43 3 = v733 := (f788 _ _ (fun q => by have z := ta43; rw [q.1, ta23] at z; exact absurd z (by decide))).trans e767
                have hO800 : FrO 2 a23 T I0 I785 := hO780.put f788 ta23 (Or.inr rfl)
                refine q_iconst dX7_readEvent_137 (by decide) ?_
                intro v801 h802
                have es803 : evS gB gQ gk gs = (tkN gB (tkN gB (tkN gB (tkN gB gs)))) := by exact om_3d1d0186 pre9 h309 h310
                obtain ⟨v804, c805⟩ : ∃ v, I785 a0 16 = v := ⟨_, rfl⟩
                exact tr_zret hZ dX7_readEvent_138 rfl (ti_b01 (by exact om_f9079521 h802) (by exact om_e6632817 h802)) (by decide) (by decide) ⟨v801, rfl, rfl, rfl, rfl, rfl, hS786, hL713, (by exact om_d753bc65 h802), (fun dr hd => (Option.some.inj (d24.symm.trans hd)) ▸ hO800), (Or.inl ⟨(by (try rw [es803]); first | done | with_reducible assumption | omega), (by (try rw [es803]); (try rw [c791]); (try rw [c40]); first | done | with_reducible assumption | exact om_9fa72578 p646 p715), (by (try rw [es803]); first | done | with_reducible assumption | fail | (exact om_31fc3479 pre9 h309 h310 p647 p648 p649 p650 b669.2 p716)), (fun q0 z0 => by obtain rfl := Option.some.inj ((d24).symm.trans z0); (try rw [es803]); (try rw [e787]); first | done | with_reducible assumption | exact om_58c7f992 p36 h782 h784), (by (try rw [es803]); (try rw [c794]); first | done | with_reducible assumption | omega), (by (try rw [es803]); (try rw [c795]); first | done | with_reducible assumption | omega), (by (try rw [es803]); (try rw [c796]); first | done | with_reducible assumption | omega), (by (try rw [es803]); (try rw [c746]); first | done | assumption), (by (try rw [es803]); (try rw [c797]); first | done | assumption), trivial⟩), trivial⟩
              · skip
                exfalso; exact om_3624102b p714 h749
            · skip
              obtain ⟨v806, c807⟩ : ∃ v, I700 a0 15 = v := ⟨_, rfl⟩
              rw [c807] at p726
              obtain ⟨v808, c809⟩ : ∃ v, I700 a0 16 = v := ⟨_, rfl⟩
              rw [c809] at p727
              refine q_if_ne 108 dX7_readEvent_103 (by decide) (fun h810 => ?_) (fun h810 => ?_)
              · skip
                exfalso; exact om_3a97d4a5 p724 h810
              · skip
                refine q_iconst dX7_readEvent_106 (by decide) ?_
                intro v811 h812
                obtain ⟨v813, c814⟩ : ∃ v, I700 a0 2 = v := ⟨_, rfl⟩
                have b815 := iv7_2 hS708.1 ta0 c814
                obtain ⟨v816, c817⟩ : ∃ v, I700 a0 4 = v := ⟨_, rfl⟩
                have b818 := iv7_4 hS708.1 ta0 c817
                obtain ⟨v819, c820⟩ : ∃ v, I700 a0 3 = v := ⟨_, rfl⟩
                have b821 := iv7_3 hS708.1 ta0 c820
                obtain ⟨y822, c823⟩ : ∃ v, L702 a0 5 = v := ⟨_, rfl⟩
                obtain ⟨v824, c825⟩ : ∃ v, I700 a0 6 = v := ⟨_, rfl⟩
                exact tr_zret hZ dX7_readEvent_107 rfl (ti_b01 (by exact om_d99fa9e4 h812) (by exact om_d3de7ec9 h812)) (by decide) (by decide) ⟨v811, rfl, rfl, rfl, rfl, rfl, hS708, hL713, (by exact om_3b50ecb9 h812), (fun dr hd => (Option.some.inj (d24.symm.trans hd)) ▸ hO712), (Or.inr (⟨(by first | done | with_reducible assumption | omega), (by first | done | with_reducible assumption | fail | (exact om_30654236 pre9 h309 h310 p647 p725)), (by (try rw [c807]); first | done | with_reducible assumption | fail | (exact om_77287dcb pre9 h309 h310 p647 p648 p649 p650 b669.2 p726)), (by (try rw [c809]); first | done | with_reducible assumption | fail | (exact om_2373b104 pre9 h309 h310 p647 p648 p649 p650 b669.2 p727)), trivial⟩)), trivial⟩
          · skip
            exfalso; exact om_0a952b73 pre9 h309 h310 h698 h699
        · skip
          exfalso; exact om_3624102b p645 h683
      · skip
        obtain ⟨v826, c827⟩ : ∃ v, I631 a0 15 = v := ⟨_, rfl⟩
        rw [c827] at p658
        obtain ⟨v828, c829⟩ : ∃ v, I631 a0 16 = v := ⟨_, rfl⟩
        rw [c829] at p659
        refine q_if_ne 46 dX7_readEvent_41 (by decide) (fun h830 => ?_) (fun h830 => ?_)
        · skip
          exfalso; exact om_3a97d4a5 p656 h830
        · skip
          refine q_iconst dX7_readEvent_44 (by decide) ?_
          intro v831 h832
          obtain ⟨v833, c834⟩ : ∃ v, I631 a0 2 = v := ⟨_, rfl⟩
          have b835 := iv7_2 hS639.1 ta0 c834
          obtain ⟨v836, c837⟩ : ∃ v, I631 a0 4 = v := ⟨_, rfl⟩
          have b838 := iv7_4 hS639.1 ta0 c837
          obtain ⟨v839, c840⟩ : ∃ v, I631 a0 3 = v := ⟨_, rfl⟩
          have b841 := iv7_3 hS639.1 ta0 c840
          obtain ⟨y842, c843⟩ : ∃ v, L633 a0 5 = v := ⟨_, rfl⟩
          obtain ⟨v844, c845⟩ : ∃ v, I631 a0 6 = v := ⟨_, rfl⟩
          exact tr_zret hZ dX7_readEvent_45 rfl (ti_b01 (by exact om_d99fa9e4 h832) (by exact om_d3de7ec9 h832)) (by decide) (by decide) ⟨v831, rfl, rfl, rfl, rfl, rfl, hS639, hL644, (by exact om_3b50ecb9 h832), (fun dr hd => (Option.some.inj (d24.symm.trans hd)) ▸ hO643), (Or.inr (⟨(by first | done | with_reducible assumption | omega), (by first | done | with_reducible assumption | fail | (exact om_8a196c32 pre9 h309 h310 p657)), (by (try rw [c827]); first | done | with_reducible assumption | fail | (exact om_e2f18a33 pre9 h309 h310 p657 p658)), (by (try rw [c829]); first | done | with_reducible assumption | fail | (exact om_ea638e60 pre9 h309 h310 p657 p659)), trivial⟩)), trivial⟩
      · skip
        obtain ⟨v846, c847⟩ : ∃ v, I631 a0 15 = v := ⟨_, rfl⟩
        rw [c847] at p663
        obtain ⟨v848, c849⟩ : ∃ v, I631 a0 16 = v := ⟨_, rfl⟩
        rw [c849] at p664
        refine q_if_ne 46 dX7_readEvent_41 (by decide) (fun h850 => ?_) (fun h850 => ?_)
        · skip
          exfalso; exact om_3a97d4a5 p660 h850
        · skip
          refine q_iconst dX7_readEvent_44 (by decide) ?_
          intro v851 h852
          obtain ⟨v853, c854⟩ : ∃ v, I631 a0 2 = v := ⟨_, rfl⟩
          have b855 := iv7_2 hS639.1 ta0 c854
          obtain ⟨v856, c857⟩ : ∃ v, I631 a0 4 = v := ⟨_, rfl⟩
          have b858 := iv7_4 hS639.1 ta0 c857
          obtain ⟨v859, c860⟩ : ∃ v, I631 a0 3 = v := ⟨_, rfl⟩
          have b861 := iv7_3 hS639.1 ta0 c860
          obtain ⟨y862, c863⟩ : ∃ v, L633 a0 5 = v := ⟨_, rfl⟩
          obtain ⟨v864, c865⟩ : ∃ v, I631 a0 6 = v := ⟨_, rfl⟩
          exact tr_zret hZ dX7_readEvent_45 rfl (ti_b01 (by exact om_d99fa9e4 h852) (by exact om_d3de7ec9 h852)) (by decide) (by decide) ⟨v851, rfl, rfl, rfl, rfl, rfl, hS639, hL644, (by exact om_3b50ecb9 h852), (fun dr hd => (Option.some.inj (d24.symm.trans hd)) ▸ hO643), (Or.inr (⟨(by first | done | with_reducible assumption | omega), (by first | done | with_reducible assumption | fail | (exact om_47f288f3 pre9 h309 h310 p661 p662)), (by (try rw [c847]); first | done | with_reducible assumption | fail | (exact om_91b959da pre9 h309 h310 p661 p662 p663)), (by (try rw [c849]); first | done | with_reducible assumption | fail | (exact om_3bfd09c3 pre9 h309 h310 p661 p662 p664)), trivial⟩)), trivial⟩
