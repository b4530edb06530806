set_option maxHeartbeats 4000000 in
theorem fk_X7_turnerKind {l : Launch} {T : Nat → Nat} {cn : Nat} {K N : Nat → Nat} {I0 : cz_I} {R0 : cz_R} {L0 : cz_L} {d : Int} (hW0 : Wf T cn K N I0 R0 d) (gB : cz_B) (gs : Int) {a0 : Nat} (ta0 : T a0 = 7) (pre0 : (I0 a0 3).toInt = (tkK gB gs)) (pre1 : (AtW ((tkK gB gs)) ((L0 a0 5).toInt) ((tkW gB gs)))) : ConE l mX7_turnerKind [.ref a0] cn K N I0 R0 L0 (ca_i (fun v cn' K' N' I' R' L' => cn = cn' ∧ K = K' ∧ N = N' ∧ I0 = I' ∧ R0 = R' ∧ L0 = L' ∧ ((-1) ≤ v.toInt ∧ v.toInt ≤ 3) ∧ (v.toInt = (tkd gB gs)) ∧ True)) := by
  refine ConE.of (by decide +kernel) rfl (Nat.le_of_ble_eq_true rfl) rfl (fun X hX hZ hE => ?_)
  subst hX
  obtain ⟨v1, c2⟩ : ∃ v, I0 a0 3 = v := ⟨_, rfl⟩
  have b3 := iv7_3 hW0 ta0 c2
  have p4 := pre0
  rw [c2] at p4
  obtain ⟨y5, c6⟩ : ∃ v, L0 a0 5 = v := ⟨_, rfl⟩
  have p7 := pre1
  rw [c6] at p7
  refine tr_aload_n dX7_turnerKind_0 rfl ?_
  refine tr_ldcwS dX7_turnerKind_1 ld7_268 ?_
  refine q_callVi hE (M' := mX7_seesWord) (as := [_]) dX7_turnerKind_4 lk7_101 inX7_seesWord seX7_seesWord myX7_seesWord (by decide) ⟨by decide, by decide⟩ rfl (kR7 hW0 ta0) (Nat.le_of_ble_eq_true rfl) rfl rfl (by decide) (by decide) (fk_X7_seesWord hW0 (gB) (gs) ta0 (by decide) (by (try rw [c2]); first | done | omega) (by (try rw [c6]); first | done | assumption)) ?_
  rintro v13 cn' K' N' I8 R9 L10 ⟨rfl, rfl, rfl, rfl, rfl, rfl, h14, dj15, -⟩
  (try rw [pk_21] at dj15)
  rcases dj15 with ⟨p16, p17, p18, -⟩ | ⟨p19, p20, -⟩
  · skip
    refine q_if_eq 12 dX7_turnerKind_7 (by decide) (fun h21 => ?_) (fun h21 => ?_)
    · skip
      exfalso; omega
    · skip
      refine q_iconst dX7_turnerKind_10 (by decide) ?_
      intro v22 h23
      exact tr_iret hZ dX7_turnerKind_11 rfl (by decide) (by decide) ⟨v22, rfl, rfl, rfl, rfl, rfl, rfl, rfl, (by omega), (by first | done | omega | (simp only [tkd, ↓reduceIte]; repeat' (first | split | omega))), trivial⟩
  · skip
    refine q_if_eq 12 dX7_turnerKind_7 (by decide) (fun h24 => ?_) (fun h24 => ?_)
    · skip
      refine tr_aload_n dX7_turnerKind_12 rfl ?_
      refine tr_ldcwS dX7_turnerKind_13 ld7_270 ?_
      refine q_callVi hE (M' := mX7_seesWord) (as := [_]) dX7_turnerKind_16 lk7_101 inX7_seesWord seX7_seesWord myX7_seesWord (by decide) ⟨by decide, by decide⟩ rfl (kR7 hW0 ta0) (Nat.le_of_ble_eq_true rfl) rfl rfl (by decide) (by decide) (fk_X7_seesWord hW0 (gB) (gs) ta0 (by decide) (by (try rw [c2]); first | done | omega) (by (try rw [c6]); first | done | assumption)) ?_
      rintro v30 cn' K' N' I25 R26 L27 ⟨rfl, rfl, rfl, rfl, rfl, rfl, h31, dj32, -⟩
      (try rw [pk_3] at dj32)
      rcases dj32 with ⟨p33, p34, p35, -⟩ | ⟨p36, p37, -⟩
      · skip
        refine q_if_eq 24 dX7_turnerKind_19 (by decide) (fun h38 => ?_) (fun h38 => ?_)
        · skip
          exfalso; omega
        · skip
          refine q_iconst dX7_turnerKind_22 (by decide) ?_
          intro v39 h40
          exact tr_iret hZ dX7_turnerKind_23 rfl (by decide) (by decide) ⟨v39, rfl, rfl, rfl, rfl, rfl, rfl, rfl, (by omega), (by first | done | omega | (simp only [tkd, ↓reduceIte]; repeat' (first | split | omega))), trivial⟩
      · skip
        refine q_if_eq 24 dX7_turnerKind_19 (by decide) (fun h41 => ?_) (fun h41 => ?_)
        · skip
          refine tr_aload_n dX7_turnerKind_24 rfl ?_
          refine tr_ldcwS dX7_turnerKind_25 ld7_272 ?_
          refine q_callVi hE (M' := mX7_seesWord) (as := [_]) dX7_turnerKind_28 lk7_101 inX7_seesWord seX7_seesWord myX7_seesWord (by decide) ⟨by decide, by decide⟩ rfl (kR7 hW0 ta0) (Nat.le_of_ble_eq_true rfl) rfl rfl (by decide) (by decide) (fk_X7_seesWord hW0 (gB) (gs) ta0 (by decide) (by (try rw [c2]); first | done | omega) (by (try rw [c6]); first | done | assumption)) ?_
          rintro v47 cn' K' N' I42 R43 L44 ⟨rfl, rfl, rfl, rfl, rfl, rfl, h48, dj49, -⟩
          (try rw [pk_9] at dj49)
          rcases dj49 with ⟨p50, p51, p52, -⟩ | ⟨p53, p54, -⟩
          · skip
            refine q_if_eq 36 dX7_turnerKind_31 (by decide) (fun h55 => ?_) (fun h55 => ?_)
            · skip
              exfalso; omega
            · skip
              refine q_iconst dX7_turnerKind_34 (by decide) ?_
              intro v56 h57
              exact tr_iret hZ dX7_turnerKind_35 rfl (by decide) (by decide) ⟨v56, rfl, rfl, rfl, rfl, rfl, rfl, rfl, (by omega), (by first | done | omega | (simp only [tkd, ↓reduceIte]; repeat' (first | split | omega))), trivial⟩
          · skip
            refine q_if_eq 36 dX7_turnerKind_31 (by decide) (fun h58 => ?_) (fun h58 => ?_)
            · skip
              refine tr_aload_n dX7_turnerKind_36 rfl ?_
              refine tr_ldcS dX7_turnerKind_37 ld7_143 ?_
              refine q_callVi hE (M' := mX7_seesWord) (as := [_]) dX7_turnerKind_39 lk7_101 inX7_seesWord seX7_seesWord myX7_seesWord (by decide) ⟨by decide, by decide⟩ rfl (kR7 hW0 ta0) (Nat.le_of_ble_eq_true rfl) rfl rfl (by decide) (by decide) (fk_X7_seesWord hW0 (gB) (gs) ta0 (by decide) (by (try rw [c2]); first | done | omega) (by (try rw [c6]); first | done | assumption)) ?_
              rintro v64 cn' K' N' I59 R60 L61 ⟨rfl, rfl, rfl, rfl, rfl, rfl, h65, dj66, -⟩
              (try rw [pk_0] at dj66)
              rcases dj66 with ⟨p67, p68, p69, -⟩ | ⟨p70, p71, -⟩
              · skip
                refine q_if_eq 49 dX7_turnerKind_42 (by decide) (fun h72 => ?_) (fun h72 => ?_)
                · skip
                  exfalso; omega
                · skip
                  refine q_iconst dX7_turnerKind_45 (by decide) ?_
                  intro v73 h74
                  refine tr_goto 50 dX7_turnerKind_46 (by decide) ?_
                  exact tr_iret hZ dX7_turnerKind_50 rfl (by decide) (by decide) ⟨v73, rfl, rfl, rfl, rfl, rfl, rfl, rfl, (by omega), (by first | done | omega | (simp only [tkd, ↓reduceIte]; repeat' (first | split | omega))), trivial⟩
              · skip
                refine q_if_eq 49 dX7_turnerKind_42 (by decide) (fun h75 => ?_) (fun h75 => ?_)
                · skip
                  refine q_iconst dX7_turnerKind_49 (by decide) ?_
                  intro v76 h77
                  exact tr_iret hZ dX7_turnerKind_50 rfl (by decide) (by decide) ⟨v76, rfl, rfl, rfl, rfl, rfl, rfl, rfl, (by omega), (by first | done | omega | (simp only [tkd, ↓reduceIte]; repeat' (first | split | omega))), trivial⟩
                · skip
                  exfalso; omega
            · skip
              exfalso; omega
        · skip
          exfalso; omega
    · skip
      exfalso; omega
def wik_X7_readAlp : List Nat := [128, 129, 450, 451, 452, 454, 455, 459, 463, 464, 1215]
def wrk_X7_readAlp : List Nat := []
def wlk_X7_readAlp : List Nat := [453]
set_option maxHeartbeats 4000000 in
theorem fk_X7_readAlp {l : Launch} {T : Nat → Nat} {cn : Nat} {K N : Nat → Nat} {I0 : cz_I} {R0 : cz_R} {L0 : cz_L} {d : Int} (hW0 : Wf T cn K N I0 R0 d) (gB : cz_B) (gs : Int) (gQ : Nat → Int) {a0 : Nat} (ta0 : T a0 = 7) (hT : ∀ t, R0 a0 0 = some t → Tx I0 t gB) (pre0 : (I0 a0 2).toInt = (tkN gB gs)) (pre1 : (I0 a0 4).toInt = (tkS gB gs)) (pre2 : (I0 a0 3).toInt = (tkK gB gs)) (pre3 : (AtW ((tkK gB gs)) ((L0 a0 5).toInt) ((tkW gB gs)))) (pre4 : (AtV ((tkK gB gs)) ((I0 a0 6).toInt) ((tkV gB gs)))) (pre5 : (I0 a0 1).toInt = (gB.2)) : ConE l mX7_readAlp [.ref a0] cn K N I0 R0 L0 (ca_i (fun v cn' K' N' I' R' L' => cn = cn' ∧ K = K' ∧ N = N' ∧ R0 = R' ∧ St T cn K N d wik_X7_readAlp wrk_X7_readAlp I0 R0 I' R0 ∧ LgS T wlk_X7_readAlp L0 L' ∧ (0 ≤ v.toInt ∧ v.toInt ≤ 1) ∧ (((v.toInt = 1) ∧ ((I' a0 15).toInt = (I0 a0 15).toInt) ∧ ((alF gB gQ gs) = 0) ∧ (∀ b1, R0 a0 10 = some b1 → (I' b1 0).toInt = (tkV gB (tkN gB gs))) ∧ (∀ b1, R0 a0 10 = some b1 → (I' b1 1).toInt = (tkV gB (tkN gB (tkN gB (tkN gB gs))))) ∧ ((I' a0 11).toInt = 1) ∧ ((I' a0 2).toInt = (tkN gB (tkN gB (tkN gB (tkN gB (tkN gB (tkN gB (tkN gB (tkN gB (tkN gB (tkN gB (tkN gB (tkN gB (tkN gB (tkN gB (tkN gB gs)))))))))))))))) ∧ ((I' a0 4).toInt = (tkS gB (tkN gB (tkN gB (tkN gB (tkN gB (tkN gB (tkN gB (tkN gB (tkN gB (tkN gB (tkN gB (tkN gB (tkN gB (tkN gB (tkN gB gs)))))))))))))))) ∧ ((I' a0 3).toInt = (tkK gB (tkN gB (tkN gB (tkN gB (tkN gB (tkN gB (tkN gB (tkN gB (tkN gB (tkN gB (tkN gB (tkN gB (tkN gB (tkN gB (tkN gB gs)))))))))))))))) ∧ ((AtW ((tkK gB (tkN gB (tkN gB (tkN gB (tkN gB (tkN gB (tkN gB (tkN gB (tkN gB (tkN gB (tkN gB (tkN gB (tkN gB (tkN gB (tkN gB gs)))))))))))))))) ((L' a0 5).toInt) ((tkW gB (tkN gB (tkN gB (tkN gB (tkN gB (tkN gB (tkN gB (tkN gB (tkN gB (tkN gB (tkN gB (tkN gB (tkN gB (tkN gB (tkN gB gs)))))))))))))))))) ∧ ((AtV ((tkK gB (tkN gB (tkN gB (tkN gB (tkN gB (tkN gB (tkN gB (tkN gB (tkN gB (tkN gB (tkN gB (tkN gB (tkN gB (tkN gB (tkN gB gs)))))))))))))))) ((I' a0 6).toInt) ((tkV gB (tkN gB (tkN gB (tkN gB (tkN gB (tkN gB (tkN gB (tkN gB (tkN gB (tkN gB (tkN gB (tkN gB (tkN gB (tkN gB (tkN gB gs)))))))))))))))))) ∧ True) ∨ ((v.toInt = 0) ∧ ((alF gB gQ gs) ≠ 0) ∧ ((I' a0 15).toInt = (alF gB gQ gs)) ∧ ((I' a0 16).toInt = (alP gB gQ gs)) ∧ True)) ∧ True)) := by
  refine ConE.of (by decide +kernel) rfl (Nat.le_of_ble_eq_true rfl) rfl (fun X hX hZ hE => ?_)
  subst hX
  have hS0 : St T cn K N d wik_X7_readAlp wrk_X7_readAlp I0 R0 I0 R0 := St.rf0 hW0
  have hL0 : LgS T wlk_X7_readAlp L0 L0 := LgS.rf0
  obtain ⟨v1, c2⟩ : ∃ v, I0 a0 2 = v := ⟨_, rfl⟩
  have b3 := iv7_2 hS0.1 ta0 c2
  have p4 := pre0
  rw [c2] at p4
  obtain ⟨v5, c6⟩ : ∃ v, I0 a0 4 = v := ⟨_, rfl⟩
  have b7 := iv7_4 hS0.1 ta0 c6
  have p8 := pre1
  rw [c6] at p8
  obtain ⟨v9, c10⟩ : ∃ v, I0 a0 3 = v := ⟨_, rfl⟩
  have b11 := iv7_3 hS0.1 ta0 c10
  have p12 := pre2
  rw [c10] at p12
  obtain ⟨y13, c14⟩ : ∃ v, L0 a0 5 = v := ⟨_, rfl⟩
  have p15 := pre3
  rw [c14] at p15
  obtain ⟨v16, c17⟩ : ∃ v, I0 a0 6 = v := ⟨_, rfl⟩
  have p18 := pre4
  rw [c17] at p18
  obtain ⟨v19, c20⟩ : ∃ v, I0 a0 1 = v := ⟨_, rfl⟩
  have b21 := iv7_1 hW0 ta0 c20
  have p22 := pre5
  rw [c20] at p22
  obtain ⟨v23, c24⟩ : ∃ v, I0 a0 15 = v := ⟨_, rfl⟩
  have hF := alF_ch gB gQ gs
  have hP := alP_ch gB gQ gs
  refine tr_aload_n dX7_readAlp_0 rfl ?_
  refine q_iconst dX7_readAlp_1 (by decide) ?_
  intro v25 h26
  refine q_putZ dX7_readAlp_2 fl7_31 (kR7 hS0.1 ta0) (Or.inl rfl) hS0 ta0 (by omega) (by show (0 : Int) ≤ v25.toInt ∧ v25.toInt ≤ (1 : Int); omega) rfl (by decide +kernel) ?_
  intro I27 hS28 e29 f30
  have c31 : I27 a0 2 = v1 := (f30 _ _ (fun q => absurd q.2 (by decide))).trans c2
  have c32 : I27 a0 4 = v5 := (f30 _ _ (fun q => absurd q.2 (by decide))).trans c6
  have c33 : I27 a0 3 = v9 := (f30 _ _ (fun q => absurd q.2 (by decide))).trans c10
  have c34 : I27 a0 6 = v16 := (f30 _ _ (fun q => absurd q.2 (by decide))).trans c17
  have c35 : I27 a0 15 = v23 := (f30 _ _ (fun q => absurd q.2 (by decide))).trans c24
  refine tr_aload_n dX7_readAlp_5 rfl ?_
  refine tr_ldcS dX7_readAlp_6 ld7_203 ?_
  refine q_callVi hE (M' := mX7_takeWord) (as := [_]) dX7_readAlp_8 lk7_126 inX7_takeWord seX7_takeWord myX7_takeWord (by decide) ⟨by decide, by decide⟩ rfl (kR7 hS28.1 ta0) (Nat.le_of_ble_eq_true rfl) rfl rfl (by decide) (by decide) (fk_X7_takeWord hS28.1 (gB) (gs) ta0 (by decide) (TxA.kp hT hS28 ta0 rfl rfl rfl (by decide +kernel) (by decide +kernel)) (by (try rw [c31]); first | done | omega) (by (try rw [c32]); first | done | omega) (by (try rw [c33]); first | done | omega) (by (try rw [c14]); first | done | assumption) (by (try rw [c34]); first | done | assumption) (by (try rw [((hS28.cell ta0 (by decide +kernel)).trans c20)]); first | done | omega)) ?_
  rintro v41 cn' K' N' I36 R37 L38 ⟨rfl, rfl, rfl, rfl, g39, gl40, h42, dj43, -⟩
  (try rw [pk_18] at dj43)
  have hS44 := hS28.tr g39 (by decide +kernel) (by decide +kernel)
  have c45 : I36 a0 11 = v25 := (g39.cell ta0 (by decide +kernel)).trans e29
  have hL46 := hL0.tr gl40 (by decide +kernel)
  rcases dj43 with ⟨p47, p48, p49, p50, p51, p52, p53, p54, p55, -⟩ | ⟨p56, p57, p58, p59, -⟩
  · skip
    obtain ⟨v60, c61⟩ : ∃ v, I36 a0 15 = v := ⟨_, rfl⟩
    rw [c61] at p48
    rw [c35] at p48
    obtain ⟨v62, c63⟩ : ∃ v, I36 a0 2 = v := ⟨_, rfl⟩
    have b64 := iv7_2 hS44.1 ta0 c63
    rw [c63] at p51
    obtain ⟨v65, c66⟩ : ∃ v, I36 a0 4 = v := ⟨_, rfl⟩
    have b67 := iv7_4 hS44.1 ta0 c66
    rw [c66] at p52
    obtain ⟨v68, c69⟩ : ∃ v, I36 a0 3 = v := ⟨_, rfl⟩
    have b70 := iv7_3 hS44.1 ta0 c69
    rw [c69] at p53
    obtain ⟨y71, c72⟩ : ∃ v, L38 a0 5 = v := ⟨_, rfl⟩
    rw [c72] at p54
    obtain ⟨v73, c74⟩ : ∃ v, I36 a0 6 = v := ⟨_, rfl⟩
    rw [c74] at p55
    replace hF := hF.neg (by omega)
    replace hP := hP.neg (by omega)
    refine q_if_eq 26 dX7_readAlp_11 (by decide) (fun h75 => ?_) (fun h75 => ?_)
    · skip
      exfalso; omega
    · skip
      refine tr_aload_n dX7_readAlp_14 rfl ?_
      refine q_bipush dX7_readAlp_15 (by decide +kernel) ?_
      intro v76 h77
      refine q_sipush dX7_readAlp_17 (by decide +kernel) ?_
      intro v78 h79
      refine q_callVi hE (M' := mX7_takeWhole) (as := [_, _]) dX7_readAlp_20 lk7_115 inX7_takeWhole seX7_takeWhole myX7_takeWhole (by decide) ⟨by decide, by decide⟩ rfl (kR7 hS44.1 ta0) (Nat.le_of_ble_eq_true rfl) rfl rfl (by decide) (by decide) (fk_X7_takeWhole hS44.1 (gB) ((tkN gB gs)) ta0 (by omega) (by omega) (TxA.kp hT hS44 ta0 rfl rfl rfl (by decide +kernel) (by decide +kernel)) (by (try rw [c63]); first | done | omega) (by (try rw [c66]); first | done | omega) (by (try rw [c69]); first | done | omega) (by (try rw [c72]); first | done | assumption) (by (try rw [c74]); first | done | assumption) (by (try rw [((hS44.cell ta0 (by decide +kernel)).trans c20)]); first | done | omega)) ?_
      rintro v85 cn' K' N' I80 R81 L82 ⟨rfl, rfl, rfl, rfl, g83, gl84, h86, dj87, -⟩
      have hS88 := hS44.tr g83 (by decide +kernel) (by decide +kernel)
      have c89 : I80 a0 11 = v25 := (g83.cell ta0 (by decide +kernel)).trans c45
      have hL90 := hL46.tr gl84 (by decide +kernel)
      rcases dj87 with ⟨p91, p92, p93, p94, p95, p96, p97, p98, p99, p100, p101, -⟩ | ⟨p102, p103, p104, p105, -⟩ | ⟨p106, p107, p108, p109, p110, -⟩
      · skip
        obtain ⟨v111, c112⟩ : ∃ v, I80 a0 15 = v := ⟨_, rfl⟩
        rw [c112] at p92
        rw [c61] at p92
        obtain ⟨v113, c114⟩ : ∃ v, I80 a0 7 = v := ⟨_, rfl⟩
        have b115 := iv7_7 hS88.1 ta0 c114
        rw [c114] at p96
        obtain ⟨v116, c117⟩ : ∃ v, I80 a0 2 = v := ⟨_, rfl⟩
        have b118 := iv7_2 hS88.1 ta0 c117
        rw [c117] at p97
        obtain ⟨v119, c120⟩ : ∃ v, I80 a0 4 = v := ⟨_, rfl⟩
        have b121 := iv7_4 hS88.1 ta0 c120
        rw [c120] at p98
        obtain ⟨v122, c123⟩ : ∃ v, I80 a0 3 = v := ⟨_, rfl⟩
        have b124 := iv7_3 hS88.1 ta0 c123
        rw [c123] at p99
        obtain ⟨y125, c126⟩ : ∃ v, L82 a0 5 = v := ⟨_, rfl⟩
        rw [c126] at p100
        obtain ⟨v127, c128⟩ : ∃ v, I80 a0 6 = v := ⟨_, rfl⟩
        rw [c128] at p101
        replace hF := hF.neg (by omega)
        replace hP := hP.neg (by omega)
        replace hF := hF.neg (by omega)
        replace hP := hP.neg (by omega)
        refine q_if_ne 28 dX7_readAlp_23 (by decide) (fun h129 => ?_) (fun h129 => ?_)
        · skip
          refine tr_aload_n dX7_readAlp_28 rfl ?_
          obtain ⟨a130, d131, ta130⟩ := rf7_10 hW0 ta0
          refine tr_getR dX7_readAlp_29 fl7_22 (kR7 hS88.1 ta0) d131 ?_
          refine tr_aload_n dX7_readAlp_32 rfl ?_
          refine q_getI dX7_readAlp_33 fl7_109 (kR7 hS88.1 ta0) c114 ?_
          refine q_putI dX7_readAlp_36 fl7_118 (kR2 hS88.1 ta130) (Or.inl rfl) hS88 ta130 (by show (0 : Int) ≤ v113.toInt ∧ v113.toInt ≤ (240 : Int); omega) rfl (by decide +kernel) ?_
          intro I132 hS133 e134 f135
          have c136 : I132 a0 11 = v25 := (f135 _ _ (fun q => absurd q.2 (by decide))).trans c89
          have c137 : I132 a0 15 = v111 := (f135 _ _ (fun q => absurd q.2 (by decide))).trans c112
          have c138 : I132 a0 7 = v113 := (f135 _ _ (fun q => absurd q.2 (by decide))).trans c114
          have c139 : I132 a0 2 = v116 := (f135 _ _ (fun q => absurd q.2 (by decide))).trans c117
          have c140 : I132 a0 4 = v119 := (f135 _ _ (fun q => absurd q.2 (by decide))).trans c120
          have c141 : I132 a0 3 = v122 := (f135 _ _ (fun q => absurd q.2 (by decide))).trans c123
          have c142 : I132 a0 6 = v127 := (f135 _ _ (fun q => absurd q.2 (by decide))).trans c128
          refine tr_aload_n dX7_readAlp_39 rfl ?_
          refine tr_ldcS dX7_readAlp_40 ld7_204 ?_
          refine q_callVi hE (M' := mX7_takeWord) (as := [_]) dX7_readAlp_42 lk7_126 inX7_takeWord seX7_takeWord myX7_takeWord (by decide) ⟨by decide, by decide⟩ rfl (kR7 hS133.1 ta0) (Nat.le_of_ble_eq_true rfl) rfl rfl (by decide) (by decide) (fk_X7_takeWord hS133.1 (gB) ((tkN gB (tkN gB gs))) ta0 (by decide) (TxA.kp hT hS133 ta0 rfl rfl rfl (by decide +kernel) (by decide +kernel)) (by (try rw [c139]); first | done | omega) (by (try rw [c140]); first | done | omega) (by (try rw [c141]); first | done | omega) (by (try rw [c126]); first | done | assumption) (by (try rw [c142]); first | done | assumption) (by (try rw [((hS133.cell ta0 (by decide +kernel)).trans c20)]); first | done | omega)) ?_
          rintro v148 cn' K' N' I143 R144 L145 ⟨rfl, rfl, rfl, rfl, g146, gl147, h149, dj150, -⟩
          (try rw [pk_16] at dj150)
          have hS151 := hS133.tr g146 (by decide +kernel) (by decide +kernel)
          have c152 : I143 a0 11 = v25 := (g146.cell ta0 (by decide +kernel)).trans c136
          have c153 : I143 a0 7 = v113 := (g146.cell ta0 (by decide +kernel)).trans c138
          have c154 : I143 a130 0 = v113 := (g146.cell ta130 (by decide +kernel)).trans e134
          have hL155 := hL90.tr gl147 (by decide +kernel)
          rcases dj150 with ⟨p156, p157, p158, p159, p160, p161, p162, p163, p164, -⟩ | ⟨p165, p166, p167, p168, -⟩
          · skip
            obtain ⟨v169, c170⟩ : ∃ v, I143 a0 15 = v := ⟨_, rfl⟩
            rw [c170] at p157
            rw [c137] at p157
            obtain ⟨v171, c172⟩ : ∃ v, I143 a0 2 = v := ⟨_, rfl⟩
            have b173 := iv7_2 hS151.1 ta0 c172
            rw [c172] at p160
            obtain ⟨v174, c175⟩ : ∃ v, I143 a0 4 = v := ⟨_, rfl⟩
            have b176 := iv7_4 hS151.1 ta0 c175
            rw [c175] at p161
            obtain ⟨v177, c178⟩ : ∃ v, I143 a0 3 = v := ⟨_, rfl⟩
            have b179 := iv7_3 hS151.1 ta0 c178
            rw [c178] at p162
            obtain ⟨y180, c181⟩ : ∃ v, L145 a0 5 = v := ⟨_, rfl⟩
            rw [c181] at p163
            obtain ⟨v182, c183⟩ : ∃ v, I143 a0 6 = v := ⟨_, rfl⟩
            rw [c183] at p164
            replace hF := hF.neg (by omega)
            replace hP := hP.neg (by omega)
            refine q_if_eq 57 dX7_readAlp_45 (by decide) (fun h184 => ?_) (fun h184 => ?_)
            · skip
              exfalso; omega
            · skip
              refine tr_aload_n dX7_readAlp_48 rfl ?_
              refine q_iconst dX7_readAlp_49 (by decide) ?_
              intro v185 h186
              refine q_iconst dX7_readAlp_50 (by decide) ?_
              intro v187 h188
              refine q_callVi hE (M' := mX7_takeWhole) (as := [_, _]) dX7_readAlp_51 lk7_115 inX7_takeWhole seX7_takeWhole myX7_takeWhole (by decide) ⟨by decide, by decide⟩ rfl (kR7 hS151.1 ta0) (Nat.le_of_ble_eq_true rfl) rfl rfl (by decide) (by decide) (fk_X7_takeWhole hS151.1 (gB) ((tkN gB (tkN gB (tkN gB gs)))) ta0 (by omega) (by omega) (TxA.kp hT hS151 ta0 rfl rfl rfl (by decide +kernel) (by decide +kernel)) (by (try rw [c172]); first | done | omega) (by (try rw [c175]); first | done | omega) (by (try rw [c178]); first | done | omega) (by (try rw [c181]); first | done | assumption) (by (try rw [c183]); first | done | assumption) (by (try rw [((hS151.cell ta0 (by decide +kernel)).trans c20)]); first | done | omega)) ?_
              rintro v194 cn' K' N' I189 R190 L191 ⟨rfl, rfl, rfl, rfl, g192, gl193, h195, dj196, -⟩
              have hS197 := hS151.tr g192 (by decide +kernel) (by decide +kernel)
              have c198 : I189 a0 11 = v25 := (g192.cell ta0 (by decide +kernel)).trans c152
              have c199 : I189 a130 0 = v113 := (g192.cell ta130 (by decide +kernel)).trans c154
              have hL200 := hL155.tr gl193 (by decide +kernel)
              rcases dj196 with ⟨p201, p202, p203, p204, p205, p206, p207, p208, p209, p210, p211, -⟩ | ⟨p212, p213, p214, p215, -⟩ | ⟨p216, p217, p218, p219, p220, -⟩
              · skip
                obtain ⟨v221, c222⟩ : ∃ v, I189 a0 15 = v := ⟨_, rfl⟩
                rw [c222] at p202
                rw [c170] at p202
                obtain ⟨v223, c224⟩ : ∃ v, I189 a0 7 = v := ⟨_, rfl⟩
                have b225 := iv7_7 hS197.1 ta0 c224
                rw [c224] at p206
                obtain ⟨v226, c227⟩ : ∃ v, I189 a0 2 = v := ⟨_, rfl⟩
                have b228 := iv7_2 hS197.1 ta0 c227
                rw [c227] at p207
                obtain ⟨v229, c230⟩ : ∃ v, I189 a0 4 = v := ⟨_, rfl⟩
                have b231 := iv7_4 hS197.1 ta0 c230
                rw [c230] at p208
                obtain ⟨v232, c233⟩ : ∃ v, I189 a0 3 = v := ⟨_, rfl⟩
                have b234 := iv7_3 hS197.1 ta0 c233
                rw [c233] at p209
                obtain ⟨y235, c236⟩ : ∃ v, L191 a0 5 = v := ⟨_, rfl⟩
                rw [c236] at p210
                obtain ⟨v237, c238⟩ : ∃ v, I189 a0 6 = v := ⟨_, rfl⟩
                rw [c238] at p211
                replace hF := hF.neg (by omega)
                replace hP := hP.neg (by omega)
                replace hF := hF.neg (by omega)
                replace hP := hP.neg (by omega)
                refine q_if_ne 59 dX7_readAlp_54 (by decide) (fun h239 => ?_) (fun h239 => ?_)
                · skip
                  refine tr_aload_n dX7_readAlp_59 rfl ?_
                  refine tr_getR dX7_readAlp_60 fl7_22 (kR7 hS197.1 ta0) d131 ?_
                  refine tr_aload_n dX7_readAlp_63 rfl ?_
                  refine q_getI dX7_readAlp_64 fl7_109 (kR7 hS197.1 ta0) c224 ?_
                  refine q_putI dX7_readAlp_67 fl7_112 (kR2 hS197.1 ta130) (Or.inl rfl) hS197 ta130 (by show (0 : Int) ≤ v223.toInt ∧ v223.toInt ≤ (4 : Int); omega) rfl (by decide +kernel) ?_
                  intro I240 hS241 e242 f243
                  have c244 : I240 a0 11 = v25 := (f243 _ _ (fun q => absurd q.2 (by decide))).trans c198
                  have c245 : I240 a130 0 = v113 := (f243 _ _ (fun q => absurd q.2 (by decide))).trans c199
                  have c246 : I240 a0 15 = v221 := (f243 _ _ (fun q => absurd q.2 (by decide))).trans c222
                  have c247 : I240 a0 7 = v223 := (f243 _ _ (fun q => absurd q.2 (by decide))).trans c224
                  have c248 : I240 a0 2 = v226 := (f243 _ _ (fun q => absurd q.2 (by decide))).trans c227
                  have c249 : I240 a0 4 = v229 := (f243 _ _ (fun q => absurd q.2 (by decide))).trans c230
                  have c250 : I240 a0 3 = v232 := (f243 _ _ (fun q => absurd q.2 (by decide))).trans c233
                  have c251 : I240 a0 6 = v237 := (f243 _ _ (fun q => absurd q.2 (by decide))).trans c238
                  refine tr_aload_n dX7_readAlp_70 rfl ?_
                  refine tr_ldcS dX7_readAlp_71 ld7_205 ?_
                  refine q_callVi hE (M' := mX7_takeWord) (as := [_]) dX7_readAlp_73 lk7_126 inX7_takeWord seX7_takeWord myX7_takeWord (by decide) ⟨by decide, by decide⟩ rfl (kR7 hS241.1 ta0) (Nat.le_of_ble_eq_true rfl) rfl rfl (by decide) (by decide) (fk_X7_takeWord hS241.1 (gB) ((tkN gB (tkN gB (tkN gB (tkN gB gs))))) ta0 (by decide) (TxA.kp hT hS241 ta0 rfl rfl rfl (by decide +kernel) (by decide +kernel)) (by (try rw [c248]); first | done | omega) (by (try rw [c249]); first | done | omega) (by (try rw [c250]); first | done | omega) (by (try rw [c236]); first | done | assumption) (by (try rw [c251]); first | done | assumption) (by (try rw [((hS241.cell ta0 (by decide +kernel)).trans c20)]); first | done | omega)) ?_
                  rintro v257 cn' K' N' I252 R253 L254 ⟨rfl, rfl, rfl, rfl, g255, gl256, h258, dj259, -⟩
                  (try rw [pk_20] at dj259)
                  have hS260 := hS241.tr g255 (by decide +kernel) (by decide +kernel)
                  have c261 : I252 a0 11 = v25 := (g255.cell ta0 (by decide +kernel)).trans c244
                  have c262 : I252 a130 0 = v113 := (g255.cell ta130 (by decide +kernel)).trans c245
                  have c263 : I252 a0 7 = v223 := (g255.cell ta0 (by decide +kernel)).trans c247
                  have c264 : I252 a130 1 = v223 := (g255.cell ta130 (by decide +kernel)).trans e242
                  have hL265 := hL200.tr gl256 (by decide +kernel)
                  rcases dj259 with ⟨p266, p267, p268, p269, p270, p271, p272, p273, p274, -⟩ | ⟨p275, p276, p277, p278, -⟩
                  · skip
                    obtain ⟨v279, c280⟩ : ∃ v, I252 a0 15 = v := ⟨_, rfl⟩
                    rw [c280] at p267
                    rw [c246] at p267
                    obtain ⟨v281, c282⟩ : ∃ v, I252 a0 2 = v := ⟨_, rfl⟩
                    have b283 := iv7_2 hS260.1 ta0 c282
                    rw [c282] at p270
                    obtain ⟨v284, c285⟩ : ∃ v, I252 a0 4 = v := ⟨_, rfl⟩
                    have b286 := iv7_4 hS260.1 ta0 c285
                    rw [c285] at p271
                    obtain ⟨v287, c288⟩ : ∃ v, I252 a0 3 = v := ⟨_, rfl⟩
                    have b289 := iv7_3 hS260.1 ta0 c288
                    rw [c288] at p272
                    obtain ⟨y290, c291⟩ : ∃ v, L254 a0 5 = v := ⟨_, rfl⟩
                    rw [c291] at p273
                    obtain ⟨v292, c293⟩ : ∃ v, I252 a0 6 = v := ⟨_, rfl⟩
                    rw [c293] at p274
                    replace hF := hF.neg (by omega)
                    replace hP := hP.neg (by omega)
                    refine q_if_ne 81 dX7_readAlp_76 (by decide) (fun h294 => ?_) (fun h294 => ?_)
                    · skip
                      refine q_iconst dX7_readAlp_81 (by decide) ?_
                      intro v295 h296
                      refine tr_istore_n dX7_readAlp_82 (by decide) (by decide) ?_
                      refine tr_iload_n dX7_readAlp_83 rfl ?_
                      refine tr_aload_n dX7_readAlp_84 rfl ?_
                      refine tr_getR dX7_readAlp_85 fl7_22 (kR7 hS260.1 ta0) d131 ?_
                      obtain ⟨a297, d298, ta297⟩ := rf2_2 hW0 ta130
                      refine tr_getR dX7_readAlp_88 fl7_207 (kR2 hS260.1 ta130) d298 ?_
                      refine q_alen dX7_readAlp_91 (kR18 hS260.1 ta297) (by decide) (by decide) (nR18 hS260.1 ta297) (by decide +kernel) ?_
                      intro v299 h300
                      refine q_icmp_ge 137 dX7_readAlp_92 (by decide) (fun h301 => ?_) (fun h301 => ?_)
                      · skip
                        exfalso; omega
                      · skip
                        refine tr_iload_n dX7_readAlp_95 rfl ?_
                        refine q_if_le 106 dX7_readAlp_96 (by decide) (fun h302 => ?_) (fun h302 => ?_)
                        · skip
                          refine tr_aload_n dX7_readAlp_106 rfl ?_
                          refine q_iconst dX7_readAlp_107 (by decide) ?_
                          intro v303 h304
                          refine q_bipush dX7_readAlp_108 (by decide +kernel) ?_
                          intro v305 h306
                          refine q_callVi hE (M' := mX7_takeWhole) (as := [_, _]) dX7_readAlp_110 lk7_115 inX7_takeWhole seX7_takeWhole myX7_takeWhole (by decide) ⟨by decide, by decide⟩ rfl (kR7 hS260.1 ta0) (Nat.le_of_ble_eq_true rfl) rfl rfl (by decide) (by decide) (fk_X7_takeWhole hS260.1 (gB) ((tkN gB (tkN gB (tkN gB (tkN gB (tkN gB gs)))))) ta0 (by omega) (by omega) (TxA.kp hT hS260 ta0 rfl rfl rfl (by decide +kernel) (by decide +kernel)) (by (try rw [c282]); first | done | omega) (by (try rw [c285]); first | done | omega) (by (try rw [c288]); first | done | omega) (by (try rw [c291]); first | done | assumption) (by (try rw [c293]); first | done | assumption) (by (try rw [((hS260.cell ta0 (by decide +kernel)).trans c20)]); first | done | omega)) ?_
                          rintro v312 cn' K' N' I307 R308 L309 ⟨rfl, rfl, rfl, rfl, g310, gl311, h313, dj314, -⟩
                          have hS315 := hS260.tr g310 (by decide +kernel) (by decide +kernel)
                          have c316 : I307 a0 11 = v25 := (g310.cell ta0 (by decide +kernel)).trans c261
                          have c317 : I307 a130 0 = v113 := (g310.cell ta130 (by decide +kernel)).trans c262
                          have c318 : I307 a130 1 = v223 := (g310.cell ta130 (by decide +kernel)).trans c264
                          have hL319 := hL265.tr gl311 (by decide +kernel)
                          rcases dj314 with ⟨p320, p321, p322, p323, p324, p325, p326, p327, p328, p329, p330, -⟩ | ⟨p331, p332, p333, p334, -⟩ | ⟨p335, p336, p337, p338, p339, -⟩
                          · skip
                            obtain ⟨v340, c341⟩ : ∃ v, I307 a0 15 = v := ⟨_, rfl⟩
                            rw [c341] at p321
                            rw [c280] at p321
                            obtain ⟨v342, c343⟩ : ∃ v, I307 a0 7 = v := ⟨_, rfl⟩
                            have b344 := iv7_7 hS315.1 ta0 c343
                            rw [c343] at p325
                            obtain ⟨v345, c346⟩ : ∃ v, I307 a0 2 = v := ⟨_, rfl⟩
                            have b347 := iv7_2 hS315.1 ta0 c346
                            rw [c346] at p326
                            obtain ⟨v348, c349⟩ : ∃ v, I307 a0 4 = v := ⟨_, rfl⟩
                            have b350 := iv7_4 hS315.1 ta0 c349
                            rw [c349] at p327
                            obtain ⟨v351, c352⟩ : ∃ v, I307 a0 3 = v := ⟨_, rfl⟩
                            have b353 := iv7_3 hS315.1 ta0 c352
                            rw [c352] at p328
                            obtain ⟨y354, c355⟩ : ∃ v, L309 a0 5 = v := ⟨_, rfl⟩
                            rw [c355] at p329
                            obtain ⟨v356, c357⟩ : ∃ v, I307 a0 6 = v := ⟨_, rfl⟩
                            rw [c357] at p330
                            replace hF := hF.neg (by omega)
                            replace hP := hP.neg (by omega)
                            replace hF := hF.neg (by omega)
                            replace hP := hP.neg (by omega)
                            refine q_if_ne 118 dX7_readAlp_113 (by decide) (fun h358 => ?_) (fun h358 => ?_)
                            · skip
                              refine tr_aload_n dX7_readAlp_118 rfl ?_
                              refine tr_getR dX7_readAlp_119 fl7_22 (kR7 hS315.1 ta0) d131 ?_
                              refine tr_getR dX7_readAlp_122 fl7_207 (kR2 hS315.1 ta130) d298 ?_
                              refine tr_iload_n dX7_readAlp_125 rfl ?_
                              refine tr_aload_n dX7_readAlp_126 rfl ?_
                              refine q_getI dX7_readAlp_127 fl7_109 (kR7 hS315.1 ta0) c343 ?_
                              refine q_iast dX7_readAlp_130 (kR18 hS315.1 ta297) (ti_in (nR18 hS315.1 ta297) (by omega) (by omega)) hS315 ta297 (iokF rfl) rfl (by rfl) ?_
                              intro I359 hS360 e362 f361
                              have c363 : I359 a0 11 = v25 := (f361 _ _ (fun q => by have z := ta0; rw [q.1, ta297] at z; exact absurd z (by decide))).trans c316
                              have c364 : I359 a130 0 = v113 := (f361 _ _ (fun q => by have z := ta130; rw [q.1, ta297] at z; exact absurd z (by decide))).trans c317
                              have c365 : I359 a130 1 = v223 := (f361 _ _ (fun q => by have z := ta130; rw [q.1, ta297] at z; exact absurd z (by decide))).trans c318
                              have c366 : I359 a0 15 = v340 := (f361 _ _ (fun q => by have z := ta0; rw [q.1, ta297] at z; exact absurd z (by decide))).trans c341
                              have c367 : I359 a0 7 = v342 := (f361 _ _ (fun q => by have z := ta0; rw [q.1, ta297] at z; exact absurd z (by decide))).trans c343
                              have c368 : I359 a0 2 = v345 := (f361 _ _ (fun q => by have z := ta0; rw [q.1, ta297] at z; exact absurd z (by decide))).trans c346
                              have c369 : I359 a0 4 = v348 := (f361 _ _ (fun q => by have z := ta0; rw [q.1, ta297] at z; exact absurd z (by decide))).trans c349
                              have c370 : I359 a0 3 = v351 := (f361 _ _ (fun q => by have z := ta0; rw [q.1, ta297] at z; exact absurd z (by decide))).trans c352
                              have c371 : I359 a0 6 = v356 := (f361 _ _ (fun q => by have z := ta0; rw [q.1, ta297] at z; exact absurd z (by decide))).trans c357
                              refine q_iincE dX7_readAlp_131 rfl (by decide) (by decide) (by intros; omega) ?_
                              intro v372 h373
                              refine tr_goto 83 dX7_readAlp_134 (by decide) ?_
                              refine tr_iload_n dX7_readAlp_83 rfl ?_
                              refine tr_aload_n dX7_readAlp_84 rfl ?_
                              refine tr_getR dX7_readAlp_85 fl7_22 (kR7 hS360.1 ta0) d131 ?_
                              refine tr_getR dX7_readAlp_88 fl7_207 (kR2 hS360.1 ta130) d298 ?_
                              refine q_alen dX7_readAlp_91 (kR18 hS360.1 ta297) (by decide) (by decide) (nR18 hS360.1 ta297) (by decide +kernel) ?_
                              intro v374 h375
                              refine q_icmp_ge 137 dX7_readAlp_92 (by decide) (fun h376 => ?_) (fun h376 => ?_)
                              · skip
                                exfalso; omega
                              · skip
                                refine tr_iload_n dX7_readAlp_95 rfl ?_
                                refine q_if_le 106 dX7_readAlp_96 (by decide) (fun h377 => ?_) (fun h377 => ?_)
                                · skip
                                  exfalso; omega
                                · skip
                                  refine tr_aload_n dX7_readAlp_99 rfl ?_
                                  refine q_callVi hE (M' := mX7_takeComma) (as := []) dX7_readAlp_100 lk7_210 inX7_takeComma seX7_takeComma myX7_takeComma (by decide) ⟨by decide, by decide⟩ rfl (kR7 hS360.1 ta0) (Nat.le_of_ble_eq_true rfl) rfl rfl (by decide) (by decide) (fk_X7_takeComma hS360.1 (gB) ((tkN gB (tkN gB (tkN gB (tkN gB (tkN gB (tkN gB gs))))))) ta0 (TxA.kp hT hS360 ta0 rfl rfl rfl (by decide +kernel) (by decide +kernel)) (by (try rw [c368]); first | done | omega) (by (try rw [c369]); first | done | omega) (by (try rw [c370]); first | done | omega) (by (try rw [c355]); first | done | assumption) (by (try rw [c371]); first | done | assumption) (by (try rw [((hS360.cell ta0 (by decide +kernel)).trans c20)]); first | done | omega)) ?_
                                  rintro v383 cn' K' N' I378 R379 L380 ⟨rfl, rfl, rfl, rfl, g381, gl382, h384, dj385, -⟩
                                  have hS386 := hS360.tr g381 (by decide +kernel) (by decide +kernel)
                                  have c387 : I378 a0 11 = v25 := (g381.cell ta0 (by decide +kernel)).trans c363
                                  have c388 : I378 a130 0 = v113 := (g381.cell ta130 (by decide +kernel)).trans c364
                                  have c389 : I378 a130 1 = v223 := (g381.cell ta130 (by decide +kernel)).trans c365
                                  have c390 : I378 a0 7 = v342 := (g381.cell ta0 (by decide +kernel)).trans c367
                                  have hL391 := hL319.tr gl382 (by decide +kernel)
                                  rcases dj385 with ⟨p392, p393, p394, p395, p396, p397, p398, p399, -⟩ | ⟨p400, p401, p402, p403, -⟩
                                  · skip
                                    obtain ⟨v404, c405⟩ : ∃ v, I378 a0 15 = v := ⟨_, rfl⟩
                                    rw [c405] at p393
                                    rw [c366] at p393
                                    obtain ⟨v406, c407⟩ : ∃ v, I378 a0 2 = v := ⟨_, rfl⟩
                                    have b408 := iv7_2 hS386.1 ta0 c407
                                    rw [c407] at p395
                                    obtain ⟨v409, c410⟩ : ∃ v, I378 a0 4 = v := ⟨_, rfl⟩
                                    have b411 := iv7_4 hS386.1 ta0 c410
                                    rw [c410] at p396
                                    obtain ⟨v412, c413⟩ : ∃ v, I378 a0 3 = v := ⟨_, rfl⟩
                                    have b414 := iv7_3 hS386.1 ta0 c413
                                    rw [c413] at p397
                                    obtain ⟨y415, c416⟩ : ∃ v, L380 a0 5 = v := ⟨_, rfl⟩
                                    rw [c416] at p398
                                    obtain ⟨v417, c418⟩ : ∃ v, I378 a0 6 = v := ⟨_, rfl⟩
                                    rw [c418] at p399
                                    replace hF := hF.neg (by omega)
                                    replace hP := hP.neg (by omega)
                                    refine q_if_eq 116 dX7_readAlp_103 (by decide) (fun h419 => ?_) (fun h419 => ?_)
                                    · skip
                                      exfalso; omega
                                    · skip
                                      refine tr_aload_n dX7_readAlp_106 rfl ?_
                                      refine q_iconst dX7_readAlp_107 (by decide) ?_
                                      intro v420 h421
                                      refine q_bipush dX7_readAlp_108 (by decide +kernel) ?_
                                      intro v422 h423
                                      refine q_callVi hE (M' := mX7_takeWhole) (as := [_, _]) dX7_readAlp_110 lk7_115 inX7_takeWhole seX7_takeWhole myX7_takeWhole (by decide) ⟨by decide, by decide⟩ rfl (kR7 hS386.1 ta0) (Nat.le_of_ble_eq_true rfl) rfl rfl (by decide) (by decide) (fk_X7_takeWhole hS386.1 (gB) ((tkN gB (tkN gB (tkN gB (tkN gB (tkN gB (tkN gB (tkN gB gs)))))))) ta0 (by omega) (by omega) (TxA.kp hT hS386 ta0 rfl rfl rfl (by decide +kernel) (by decide +kernel)) (by (try rw [c407]); first | done | omega) (by (try rw [c410]); first | done | omega) (by (try rw [c413]); first | done | omega) (by (try rw [c416]); first | done | assumption) (by (try rw [c418]); first | done | assumption) (by (try rw [((hS386.cell ta0 (by decide +kernel)).trans c20)]); first | done | omega)) ?_
                                      rintro v429 cn' K' N' I424 R425 L426 ⟨rfl, rfl, rfl, rfl, g427, gl428, h430, dj431, -⟩
                                      have hS432 := hS386.tr g427 (by decide +kernel) (by decide +kernel)
                                      have c433 : I424 a0 11 = v25 := (g427.cell ta0 (by decide +kernel)).trans c387
                                      have c434 : I424 a130 0 = v113 := (g427.cell ta130 (by decide +kernel)).trans c388
                                      have c435 : I424 a130 1 = v223 := (g427.cell ta130 (by decide +kernel)).trans c389
                                      have hL436 := hL391.tr gl428 (by decide +kernel)
                                      rcases dj431 with ⟨p437, p438, p439, p440, p441, p442, p443, p444, p445, p446, p447, -⟩ | ⟨p448, p449, p450, p451, -⟩ | ⟨p452, p453, p454, p455, p456, -⟩
                                      · skip
                                        obtain ⟨v457, c458⟩ : ∃ v, I424 a0 15 = v := ⟨_, rfl⟩
                                        rw [c458] at p438
                                        rw [c405] at p438
                                        obtain ⟨v459, c460⟩ : ∃ v, I424 a0 7 = v := ⟨_, rfl⟩
                                        have b461 := iv7_7 hS432.1 ta0 c460
                                        rw [c460] at p442
                                        obtain ⟨v462, c463⟩ : ∃ v, I424 a0 2 = v := ⟨_, rfl⟩
                                        have b464 := iv7_2 hS432.1 ta0 c463
                                        rw [c463] at p443
                                        obtain ⟨v465, c466⟩ : ∃ v, I424 a0 4 = v := ⟨_, rfl⟩
                                        have b467 := iv7_4 hS432.1 ta0 c466
                                        rw [c466] at p444
                                        obtain ⟨v468, c469⟩ : ∃ v, I424 a0 3 = v := ⟨_, rfl⟩
                                        have b470 := iv7_3 hS432.1 ta0 c469
                                        rw [c469] at p445
                                        obtain ⟨y471, c472⟩ : ∃ v, L426 a0 5 = v := ⟨_, rfl⟩
                                        rw [c472] at p446
                                        obtain ⟨v473, c474⟩ : ∃ v, I424 a0 6 = v := ⟨_, rfl⟩
                                        rw [c474] at p447
                                        replace hF := hF.neg (by omega)
                                        replace hP := hP.neg (by omega)
                                        replace hF := hF.neg (by omega)
                                        replace hP := hP.neg (by omega)
                                        refine q_if_ne 118 dX7_readAlp_113 (by decide) (fun h475 => ?_) (fun h475 => ?_)
                                        · skip
                                          refine tr_aload_n dX7_readAlp_118 rfl ?_
                                          refine tr_getR dX7_readAlp_119 fl7_22 (kR7 hS432.1 ta0) d131 ?_
                                          refine tr_getR dX7_readAlp_122 fl7_207 (kR2 hS432.1 ta130) d298 ?_
                                          refine tr_iload_n dX7_readAlp_125 rfl ?_
                                          refine tr_aload_n dX7_readAlp_126 rfl ?_
                                          refine q_getI dX7_readAlp_127 fl7_109 (kR7 hS432.1 ta0) c460 ?_
                                          refine q_iast dX7_readAlp_130 (kR18 hS432.1 ta297) (ti_in (nR18 hS432.1 ta297) (by omega) (by omega)) hS432 ta297 (iokF rfl) rfl (by rfl) ?_
                                          intro I476 hS477 e479 f478
                                          have c480 : I476 a0 11 = v25 := (f478 _ _ (fun q => by have z := ta0; rw [q.1, ta297] at z; exact absurd z (by decide))).trans c433
                                          have c481 : I476 a130 0 = v113 := (f478 _ _ (fun q => by have z := ta130; rw [q.1, ta297] at z; exact absurd z (by decide))).trans c434
                                          have c482 : I476 a130 1 = v223 := (f478 _ _ (fun q => by have z := ta130; rw [q.1, ta297] at z; exact absurd z (by decide))).trans c435
                                          have c483 : I476 a0 15 = v457 := (f478 _ _ (fun q => by have z := ta0; rw [q.1, ta297] at z; exact absurd z (by decide))).trans c458
                                          have c484 : I476 a0 7 = v459 := (f478 _ _ (fun q => by have z := ta0; rw [q.1, ta297] at z; exact absurd z (by decide))).trans c460
                                          have c485 : I476 a0 2 = v462 := (f478 _ _ (fun q => by have z := ta0; rw [q.1, ta297] at z; exact absurd z (by decide))).trans c463
                                          have c486 : I476 a0 4 = v465 := (f478 _ _ (fun q => by have z := ta0; rw [q.1, ta297] at z; exact absurd z (by decide))).trans c466
                                          have c487 : I476 a0 3 = v468 := (f478 _ _ (fun q => by have z := ta0; rw [q.1, ta297] at z; exact absurd z (by decide))).trans c469
                                          have c488 : I476 a0 6 = v473 := (f478 _ _ (fun q => by have z := ta0; rw [q.1, ta297] at z; exact absurd z (by decide))).trans c474
                                          refine q_iincE dX7_readAlp_131 rfl (by decide) (by decide) (by intros; omega) ?_
                                          intro v489 h490
                                          refine tr_goto 83 dX7_readAlp_134 (by decide) ?_
                                          refine tr_iload_n dX7_readAlp_83 rfl ?_
                                          refine tr_aload_n dX7_readAlp_84 rfl ?_
                                          refine tr_getR dX7_readAlp_85 fl7_22 (kR7 hS477.1 ta0) d131 ?_
                                          refine tr_getR dX7_readAlp_88 fl7_207 (kR2 hS477.1 ta130) d298 ?_
                                          refine q_alen dX7_readAlp_91 (kR18 hS477.1 ta297) (by decide) (by decide) (nR18 hS477.1 ta297) (by decide +kernel) ?_
                                          intro v491 h492
                                          refine q_icmp_ge 137 dX7_readAlp_92 (by decide) (fun h493 => ?_) (fun h493 => ?_)
                                          · skip
                                            exfalso; omega
                                          · skip
                                            refine tr_iload_n dX7_readAlp_95 rfl ?_
                                            refine q_if_le 106 dX7_readAlp_96 (by decide) (fun h494 => ?_) (fun h494 => ?_)
                                            · skip
                                              exfalso; omega
                                            · skip
                                              refine tr_aload_n dX7_readAlp_99 rfl ?_
                                              refine q_callVi hE (M' := mX7_takeComma) (as := []) dX7_readAlp_100 lk7_210 inX7_takeComma seX7_takeComma myX7_takeComma (by decide) ⟨by decide, by decide⟩ rfl (kR7 hS477.1 ta0) (Nat.le_of_ble_eq_true rfl) rfl rfl (by decide) (by decide) (fk_X7_takeComma hS477.1 (gB) ((tkN gB (tkN gB (tkN gB (tkN gB (tkN gB (tkN gB (tkN gB (tkN gB gs))))))))) ta0 (TxA.kp hT hS477 ta0 rfl rfl rfl (by decide +kernel) (by decide +kernel)) (by (try rw [c485]); first | done | omega) (by (try rw [c486]); first | done | omega) (by (try rw [c487]); first | done | omega) (by (try rw [c472]); first | done | assumption) (by (try rw [c488]); first | done | assumption) (by (try rw [((hS477.cell ta0 (by decide +kernel)).trans c20)]); first | done | omega)) ?_
                                              rintro v500 cn' K' N' I495 R496 L497 ⟨rfl, rfl, rfl, rfl, g498, gl499, h501, dj502, -⟩
                                              have hS503 := hS477.tr g498 (by decide +kernel) (by decide +kernel)
                                              have c504 : I495 a0 11 = v25 := (g498.cell ta0 (by decide +kernel)).trans c480
                                              have c505 : I495 a130 0 = v113 := (g498.cell ta130 (by decide +kernel)).trans c481
                                              have c506 : I495 a130 1 = v223 := (g498.cell ta130 (by decide +kernel)).trans c482
                                              have c507 : I495 a0 7 = v459 := (g498.cell ta0 (by decide +kernel)).trans c484
                                              have hL508 := hL436.tr gl499 (by decide +kernel)
                                              rcases dj502 with ⟨p509, p510, p511, p512, p513, p514, p515, p516, -⟩ | ⟨p517, p518, p519, p520, -⟩
                                              · skip
                                                obtain ⟨v521, c522⟩ : ∃ v, I495 a0 15 = v := ⟨_, rfl⟩
                                                rw [c522] at p510
                                                rw [c483] at p510
                                                obtain ⟨v523, c524⟩ : ∃ v, I495 a0 2 = v := ⟨_, rfl⟩
                                                have b525 := iv7_2 hS503.1 ta0 c524
                                                rw [c524] at p512
                                                obtain ⟨v526, c527⟩ : ∃ v, I495 a0 4 = v := ⟨_, rfl⟩
                                                have b528 := iv7_4 hS503.1 ta0 c527
                                                rw [c527] at p513
                                                obtain ⟨v529, c530⟩ : ∃ v, I495 a0 3 = v := ⟨_, rfl⟩
                                                have b531 := iv7_3 hS503.1 ta0 c530
                                                rw [c530] at p514
                                                obtain ⟨y532, c533⟩ : ∃ v, L497 a0 5 = v := ⟨_, rfl⟩
                                                rw [c533] at p515
                                                obtain ⟨v534, c535⟩ : ∃ v, I495 a0 6 = v := ⟨_, rfl⟩
                                                rw [c535] at p516
                                                replace hF := hF.neg (by omega)
                                                replace hP := hP.neg (by omega)
                                                refine q_if_eq 116 dX7_readAlp_103 (by decide) (fun h536 => ?_) (fun h536 => ?_)
                                                · skip
                                                  exfalso; omega
                                                · skip
                                                  refine tr_aload_n dX7_readAlp_106 rfl ?_
                                                  refine q_iconst dX7_readAlp_107 (by decide) ?_
                                                  intro v537 h538
                                                  refine q_bipush dX7_readAlp_108 (by decide +kernel) ?_
                                                  intro v539 h540
                                                  refine q_callVi hE (M' := mX7_takeWhole) (as := [_, _]) dX7_readAlp_110 lk7_115 inX7_takeWhole seX7_takeWhole myX7_takeWhole (by decide) ⟨by decide, by decide⟩ rfl (kR7 hS503.1 ta0) (Nat.le_of_ble_eq_true rfl) rfl rfl (by decide) (by decide) (fk_X7_takeWhole hS503.1 (gB) ((tkN gB (tkN gB (tkN gB (tkN gB (tkN gB (tkN gB (tkN gB (tkN gB (tkN gB gs)))))))))) ta0 (by omega) (by omega) (TxA.kp hT hS503 ta0 rfl rfl rfl (by decide +kernel) (by decide +kernel)) (by (try rw [c524]); first | done | omega) (by (try rw [c527]); first | done | omega) (by (try rw [c530]); first | done | omega) (by (try rw [c533]); first | done | assumption) (by (try rw [c535]); first | done | assumption) (by (try rw [((hS503.cell ta0 (by decide +kernel)).trans c20)]); first | done | omega)) ?_
                                                  rintro v546 cn' K' N' I541 R542 L543 ⟨rfl, rfl, rfl, rfl, g544, gl545, h547, dj548, -⟩
                                                  have hS549 := hS503.tr g544 (by decide +kernel) (by decide +kernel)
                                                  have c550 : I541 a0 11 = v25 := (g544.cell ta0 (by decide +kernel)).trans c504
                                                  have c551 : I541 a130 0 = v113 := (g544.cell ta130 (by decide +kernel)).trans c505
                                                  have c552 : I541 a130 1 = v223 := (g544.cell ta130 (by decide +kernel)).trans c506
                                                  have hL553 := hL508.tr gl545 (by decide +kernel)
                                                  rcases dj548 with ⟨p554, p555, p556, p557, p558, p559, p560, p561, p562, p563, p564, -⟩ | ⟨p565, p566, p567, p568, -⟩ | ⟨p569, p570, p571, p572, p573, -⟩
                                                  · skip
                                                    obtain ⟨v574, c575⟩ : ∃ v, I541 a0 15 = v := ⟨_, rfl⟩
                                                    rw [c575] at p555
                                                    rw [c522] at p555
                                                    obtain ⟨v576, c577⟩ : ∃ v, I541 a0 7 = v := ⟨_, rfl⟩
                                                    have b578 := iv7_7 hS549.1 ta0 c577
                                                    rw [c577] at p559
                                                    obtain ⟨v579, c580⟩ : ∃ v, I541 a0 2 = v := ⟨_, rfl⟩
                                                    have b581 := iv7_2 hS549.1 ta0 c580
                                                    rw [c580] at p560
                                                    obtain ⟨v582, c583⟩ : ∃ v, I541 a0 4 = v := ⟨_, rfl⟩
                                                    have b584 := iv7_4 hS549.1 ta0 c583
                                                    rw [c583] at p561
                                                    obtain ⟨v585, c586⟩ : ∃ v, I541 a0 3 = v := ⟨_, rfl⟩
                                                    have b587 := iv7_3 hS549.1 ta0 c586
                                                    rw [c586] at p562
                                                    obtain ⟨y588, c589⟩ : ∃ v, L543 a0 5 = v := ⟨_, rfl⟩
                                                    rw [c589] at p563
                                                    obtain ⟨v590, c591⟩ : ∃ v, I541 a0 6 = v := ⟨_, rfl⟩
                                                    rw [c591] at p564
                                                    replace hF := hF.neg (by omega)
                                                    replace hP := hP.neg (by omega)
                                                    replace hF := hF.neg (by omega)
                                                    replace hP := hP.neg (by omega)
                                                    refine q_if_ne 118 dX7_readAlp_113 (by decide) (fun h592 => ?_) (fun h592 => ?_)
                                                    · skip
                                                      refine tr_aload_n dX7_readAlp_118 rfl ?_
                                                      refine tr_getR dX7_readAlp_119 fl7_22 (kR7 hS549.1 ta0) d131 ?_
                                                      refine tr_getR dX7_readAlp_122 fl7_207 (kR2 hS549.1 ta130) d298 ?_
                                                      refine tr_iload_n dX7_readAlp_125 rfl ?_
                                                      refine tr_aload_n dX7_readAlp_126 rfl ?_
                                                      refine q_getI dX7_readAlp_127 fl7_109 (kR7 hS549.1 ta0) c577 ?_
                                                      refine q_iast dX7_readAlp_130 (kR18 hS549.1 ta297) (ti_in (nR18 hS549.1 ta297) (by omega) (by omega)) hS549 ta297 (iokF rfl) rfl (by rfl) ?_
                                                      intro I593 hS594 e596 f595
                                                      have c597 : I593 a0 11 = v25 := (f595 _ _ (fun q => by have z := ta0; rw [q.1, ta297] at z; exact absurd z (by decide))).trans c550
                                                      have c598 : I593 a130 0 = v113 := (f595 _ _ (fun q => by have z := ta130; rw [q.1, ta297] at z; exact absurd z (by decide))).trans c551
                                                      have c599 : I593 a130 1 = v223 := (f595 _ _ (fun q => by have z := ta130; rw [q.1, ta297] at z; exact absurd z (by decide))).trans c552
                                                      have c600 : I593 a0 15 = v574 := (f595 _ _ (fun q => by have z := ta0; rw [q.1, ta297] at z; exact absurd z (by decide))).trans c575
                                                      have c601 : I593 a0 7 = v576 := (f595 _ _ (fun q => by have z := ta0; rw [q.1, ta297] at z; exact absurd z (by decide))).trans c577
                                                      have c602 : I593 a0 2 = v579 := (f595 _ _ (fun q => by have z := ta0; rw [q.1, ta297] at z; exact absurd z (by decide))).trans c580
                                                      have c603 : I593 a0 4 = v582 := (f595 _ _ (fun q => by have z := ta0; rw [q.1, ta297] at z; exact absurd z (by decide))).trans c583
                                                      have c604 : I593 a0 3 = v585 := (f595 _ _ (fun q => by have z := ta0; rw [q.1, ta297] at z; exact absurd z (by decide))).trans c586
                                                      have c605 : I593 a0 6 = v590 := (f595 _ _ (fun q => by have z := ta0; rw [q.1, ta297] at z; exact absurd z (by decide))).trans c591
                                                      refine q_iincE dX7_readAlp_131 rfl (by decide) (by decide) (by intros; omega) ?_
                                                      intro v606 h607
                                                      refine tr_goto 83 dX7_readAlp_134 (by decide) ?_
                                                      refine tr_iload_n dX7_readAlp_83 rfl ?_
                                                      refine tr_aload_n dX7_readAlp_84 rfl ?_
                                                      refine tr_getR dX7_readAlp_85 fl7_22 (kR7 hS594.1 ta0) d131 ?_
                                                      refine tr_getR dX7_readAlp_88 fl7_207 (kR2 hS594.1 ta130) d298 ?_
                                                      refine q_alen dX7_readAlp_91 (kR18 hS594.1 ta297) (by decide) (by decide) (nR18 hS594.1 ta297) (by decide +kernel) ?_
                                                      intro v608 h609
                                                      refine q_icmp_ge 137 dX7_readAlp_92 (by decide) (fun h610 => ?_) (fun h610 => ?_)
                                                      · skip
                                                        exfalso; omega
                                                      · skip
                                                        refine tr_iload_n dX7_readAlp_95 rfl ?_
                                                        refine q_if_le 106 dX7_readAlp_96 (by decide) (fun h611 => ?_) (fun h611 => ?_)
                                                        · skip
                                                          exfalso; omega
                                                        · skip
                                                          refine tr_aload_n dX7_readAlp_99 rfl ?_
                                                          refine q_callVi hE (M' := mX7_takeComma) (as := []) dX7_readAlp_100 lk7_210 inX7_takeComma seX7_takeComma myX7_takeComma (by decide) ⟨by decide, by decide⟩ rfl (kR7 hS594.1 ta0) (Nat.le_of_ble_eq_true rfl) rfl rfl (by decide) (by decide) (fk_X7_takeComma hS594.1 (gB) ((tkN gB (tkN gB (tkN gB (tkN gB (tkN gB (tkN gB (tkN gB (tkN gB (tkN gB (tkN gB gs))))))))))) ta0 (TxA.kp hT hS594 ta0 rfl rfl rfl (by decide +kernel) (by decide +kernel)) (by (try rw [c602]); first | done | omega) (by (try rw [c603]); first | done | omega) (by (try rw [c604]); first | done | omega) (by (try rw [c589]); first | done | assumption) (by (try rw [c605]); first | done | assumption) (by (try rw [((hS594.cell ta0 (by decide +kernel)).trans c20)]); first | done | omega)) ?_
                                                          rintro v617 cn' K' N' I612 R613 L614 ⟨rfl, rfl, rfl, rfl, g615, gl616, h618, dj619, -⟩
                                                          have hS620 := hS594.tr g615 (by decide +kernel) (by decide +kernel)
                                                          have c621 : I612 a0 11 = v25 := (g615.cell ta0 (by decide +kernel)).trans c597
                                                          have c622 : I612 a130 0 = v113 := (g615.cell ta130 (by decide +kernel)).trans c598
                                                          have c623 : I612 a130 1 = v223 := (g615.cell ta130 (by decide +kernel)).trans c599
                                                          have c624 : I612 a0 7 = v576 := (g615.cell ta0 (by decide +kernel)).trans c601
                                                          have hL625 := hL553.tr gl616 (by decide +kernel)
                                                          rcases dj619 with ⟨p626, p627, p628, p629, p630, p631, p632, p633, -⟩ | ⟨p634, p635, p636, p637, -⟩
                                                          · skip
                                                            obtain ⟨v638, c639⟩ : ∃ v, I612 a0 15 = v := ⟨_, rfl⟩
                                                            rw [c639] at p627
                                                            rw [c600] at p627
                                                            obtain ⟨v640, c641⟩ : ∃ v, I612 a0 2 = v := ⟨_, rfl⟩
                                                            have b642 := iv7_2 hS620.1 ta0 c641
                                                            rw [c641] at p629
                                                            obtain ⟨v643, c644⟩ : ∃ v, I612 a0 4 = v := ⟨_, rfl⟩
                                                            have b645 := iv7_4 hS620.1 ta0 c644
                                                            rw [c644] at p630
                                                            obtain ⟨v646, c647⟩ : ∃ v, I612 a0 3 = v := ⟨_, rfl⟩
                                                            have b648 := iv7_3 hS620.1 ta0 c647
                                                            rw [c647] at p631
                                                            obtain ⟨y649, c650⟩ : ∃ v, L614 a0 5 = v := ⟨_, rfl⟩
                                                            rw [c650] at p632
                                                            obtain ⟨v651, c652⟩ : ∃ v, I612 a0 6 = v := ⟨_, rfl⟩
                                                            rw [c652] at p633
                                                            replace hF := hF.neg (by omega)
                                                            replace hP := hP.neg (by omega)
                                                            refine q_if_eq 116 dX7_readAlp_103 (by decide) (fun h653 => ?_) (fun h653 => ?_)
                                                            · skip
                                                              exfalso; omega
                                                            · skip
                                                              refine tr_aload_n dX7_readAlp_106 rfl ?_
                                                              refine q_iconst dX7_readAlp_107 (by decide) ?_
                                                              intro v654 h655
                                                              refine q_bipush dX7_readAlp_108 (by decide +kernel) ?_
                                                              intro v656 h657
                                                              refine q_callVi hE (M' := mX7_takeWhole) (as := [_, _]) dX7_readAlp_110 lk7_115 inX7_takeWhole seX7_takeWhole myX7_takeWhole (by decide) ⟨by decide, by decide⟩ rfl (kR7 hS620.1 ta0) (Nat.le_of_ble_eq_true rfl) rfl rfl (by decide) (by decide) (fk_X7_takeWhole hS620.1 (gB) ((tkN gB (tkN gB (tkN gB (tkN gB (tkN gB (tkN gB (tkN gB (tkN gB (tkN gB (tkN gB (tkN gB gs)))))))))))) ta0 (by omega) (by omega) (TxA.kp hT hS620 ta0 rfl rfl rfl (by decide +kernel) (by decide +kernel)) (by (try rw [c641]); first | done | omega) (by (try rw [c644]); first | done | omega) (by (try rw [c647]); first | done | omega) (by (try rw [c650]); first | done | assumption) (by (try rw [c652]); first | done | assumption) (by (try rw [((hS620.cell ta0 (by decide +kernel)).trans c20)]); first | done | omega)) ?_
                                                              rintro v663 cn' K' N' I658 R659 L660 ⟨rfl, rfl, rfl, rfl, g661, gl662, h664, dj665, -⟩
                                                              have hS666 := hS620.tr g661 (by decide +kernel) (by decide +kernel)
                                                              have c667 : I658 a0 11 = v25 := (g661.cell ta0 (by decide +kernel)).trans c621
                                                              have c668 : I658 a130 0 = v113 := (g661.cell ta130 (by decide +kernel)).trans c622
                                                              have c669 : I658 a130 1 = v223 := (g661.cell ta130 (by decide +kernel)).trans c623
                                                              have hL670 := hL625.tr gl662 (by decide +kernel)
                                                              rcases dj665 with ⟨p671, p672, p673, p674, p675, p676, p677, p678, p679, p680, p681, -⟩ | ⟨p682, p683, p684, p685, -⟩ | ⟨p686, p687, p688, p689, p690, -⟩
                                                              · skip
                                                                obtain ⟨v691, c692⟩ : ∃ v, I658 a0 15 = v := ⟨_, rfl⟩
                                                                rw [c692] at p672
                                                                rw [c639] at p672
                                                                obtain ⟨v693, c694⟩ : ∃ v, I658 a0 7 = v := ⟨_, rfl⟩
                                                                have b695 := iv7_7 hS666.1 ta0 c694
                                                                rw [c694] at p676
                                                                obtain ⟨v696, c697⟩ : ∃ v, I658 a0 2 = v := ⟨_, rfl⟩
                                                                have b698 := iv7_2 hS666.1 ta0 c697
                                                                rw [c697] at p677
                                                                obtain ⟨v699, c700⟩ : ∃ v, I658 a0 4 = v := ⟨_, rfl⟩
                                                                have b701 := iv7_4 hS666.1 ta0 c700
                                                                rw [c700] at p678
                                                                obtain ⟨v702, c703⟩ : ∃ v, I658 a0 3 = v := ⟨_, rfl⟩
                                                                have b704 := iv7_3 hS666.1 ta0 c703
                                                                rw [c703] at p679
                                                                obtain ⟨y705, c706⟩ : ∃ v, L660 a0 5 = v := ⟨_, rfl⟩
                                                                rw [c706] at p680
                                                                obtain ⟨v707, c708⟩ : ∃ v, I658 a0 6 = v := ⟨_, rfl⟩
                                                                rw [c708] at p681
                                                                replace hF := hF.neg (by omega)
                                                                replace hP := hP.neg (by omega)
                                                                replace hF := hF.neg (by omega)
                                                                replace hP := hP.neg (by omega)
                                                                refine q_if_ne 118 dX7_readAlp_113 (by decide) (fun h709 => ?_) (fun h709 => ?_)
                                                                · skip
                                                                  refine tr_aload_n dX7_readAlp_118 rfl ?_
                                                                  refine tr_getR dX7_readAlp_119 fl7_22 (kR7 hS666.1 ta0) d131 ?_
                                                                  refine tr_getR dX7_readAlp_122 fl7_207 (kR2 hS666.1 ta130) d298 ?_
                                                                  refine tr_iload_n dX7_readAlp_125 rfl ?_
                                                                  refine tr_aload_n dX7_readAlp_126 rfl ?_
                                                                  refine q_getI dX7_readAlp_127 fl7_109 (kR7 hS666.1 ta0) c694 ?_
                                                                  refine q_iast dX7_readAlp_130 (kR18 hS666.1 ta297) (ti_in (nR18 hS666.1 ta297) (by omega) (by omega)) hS666 ta297 (iokF rfl) rfl (by rfl) ?_
                                                                  intro I710 hS711 e713 f712
                                                                  have c714 : I710 a0 11 = v25 := (f712 _ _ (fun q => by have z := ta0; rw [q.1, ta297] at z; exact absurd z (by decide))).trans c667
                                                                  have c715 : I710 a130 0 = v113 := (f712 _ _ (fun q => by have z := ta130; rw [q.1, ta297] at z; exact absurd z (by decide))).trans c668
                                                                  have c716 : I710 a130 1 = v223 := (f712 _ _ (fun q => by have z := ta130; rw [q.1, ta297] at z; exact absurd z (by decide))).trans c669
                                                                  have c717 : I710 a0 15 = v691 := (f712 _ _ (fun q => by have z := ta0; rw [q.1, ta297] at z; exact absurd z (by decide))).trans c692
                                                                  have c718 : I710 a0 7 = v693 := (f712 _ _ (fun q => by have z := ta0; rw [q.1, ta297] at z; exact absurd z (by decide))).trans c694
                                                                  have c719 : I710 a0 2 = v696 := (f712 _ _ (fun q => by have z := ta0; rw [q.1, ta297] at z; exact absurd z (by decide))).trans c697
                                                                  have c720 : I710 a0 4 = v699 := (f712 _ _ (fun q => by have z := ta0; rw [q.1, ta297] at z; exact absurd z (by decide))).trans c700
                                                                  have c721 : I710 a0 3 = v702 := (f712 _ _ (fun q => by have z := ta0; rw [q.1, ta297] at z; exact absurd z (by decide))).trans c703
                                                                  have c722 : I710 a0 6 = v707 := (f712 _ _ (fun q => by have z := ta0; rw [q.1, ta297] at z; exact absurd z (by decide))).trans c708
                                                                  refine q_iincE dX7_readAlp_131 rfl (by decide) (by decide) (by intros; omega) ?_
                                                                  intro v723 h724
                                                                  refine tr_goto 83 dX7_readAlp_134 (by decide) ?_
                                                                  refine tr_iload_n dX7_readAlp_83 rfl ?_
                                                                  refine tr_aload_n dX7_readAlp_84 rfl ?_
                                                                  refine tr_getR dX7_readAlp_85 fl7_22 (kR7 hS711.1 ta0) d131 ?_
                                                                  refine tr_getR dX7_readAlp_88 fl7_207 (kR2 hS711.1 ta130) d298 ?_
                                                                  refine q_alen dX7_readAlp_91 (kR18 hS711.1 ta297) (by decide) (by decide) (nR18 hS711.1 ta297) (by decide +kernel) ?_
                                                                  intro v725 h726
                                                                  refine q_icmp_ge 137 dX7_readAlp_92 (by decide) (fun h727 => ?_) (fun h727 => ?_)
                                                                  · skip
                                                                    exfalso; omega
                                                                  · skip
                                                                    refine tr_iload_n dX7_readAlp_95 rfl ?_
                                                                    refine q_if_le 106 dX7_readAlp_96 (by decide) (fun h728 => ?_) (fun h728 => ?_)
                                                                    · skip
                                                                      exfalso; omega
                                                                    · skip
                                                                      refine tr_aload_n dX7_readAlp_99 rfl ?_
                                                                      refine q_callVi hE (M' := mX7_takeComma) (as := []) dX7_readAlp_100 lk7_210 inX7_takeComma seX7_takeComma myX7_takeComma (by decide) ⟨by decide, by decide⟩ rfl (kR7 hS711.1 ta0) (Nat.le_of_ble_eq_true rfl) rfl rfl (by decide) (by decide) (fk_X7_takeComma hS711.1 (gB) ((tkN gB (tkN gB (tkN gB (tkN gB (tkN gB (tkN gB (tkN gB (tkN gB (tkN gB (tkN gB (tkN gB (tkN gB gs))))))))))))) ta0 (TxA.kp hT hS711 ta0 rfl rfl rfl (by decide +kernel) (by decide +kernel)) (by (try rw [c719]); first | done | omega) (by (try rw [c720]); first | done | omega) (by (try rw [c721]); first | done | omega) (by (try rw [c706]); first | done | assumption) (by (try rw [c722]); first | done | assumption) (by (try rw [((hS711.cell ta0 (by decide +kernel)).trans c20)]); first | done | omega)) ?_
                                                                      rintro v734 cn' K' N' I729 R730 L731 ⟨rfl, rfl, rfl, rfl, g732, gl733, h735, dj736, -⟩
                                                                      have hS737 := hS711.tr g732 (by decide +kernel) (by decide +kernel)
                                                                      have c738 : I729 a0 11 = v25 := (g732.cell ta0 (by decide +kernel)).trans c714
                                                                      have c739 : I729 a130 0 = v113 := (g732.cell ta130 (by decide +kernel)).trans c715
                                                                      have c740 : I729 a130 1 = v223 := (g732.cell ta130 (by decide +kernel)).trans c716
                                                                      have c741 : I729 a0 7 = v693 := (g732.cell ta0 (by decide +kernel)).trans c718
                                                                      have hL742 := hL670.tr gl733 (by decide +kernel)
                                                                      rcases dj736 with ⟨p743, p744, p745, p746, p747, p748, p749, p750, -⟩ | ⟨p751, p752, p753, p754, -⟩
                                                                      · skip
                                                                        obtain ⟨v755, c756⟩ : ∃ v, I729 a0 15 = v := ⟨_, rfl⟩
                                                                        rw [c756] at p744
                                                                        rw [c717] at p744
                                                                        obtain ⟨v757, c758⟩ : ∃ v, I729 a0 2 = v := ⟨_, rfl⟩
                                                                        have b759 := iv7_2 hS737.1 ta0 c758
                                                                        rw [c758] at p746
                                                                        obtain ⟨v760, c761⟩ : ∃ v, I729 a0 4 = v := ⟨_, rfl⟩
                                                                        have b762 := iv7_4 hS737.1 ta0 c761
                                                                        rw [c761] at p747
                                                                        obtain ⟨v763, c764⟩ : ∃ v, I729 a0 3 = v := ⟨_, rfl⟩
                                                                        have b765 := iv7_3 hS737.1 ta0 c764
                                                                        rw [c764] at p748
                                                                        obtain ⟨y766, c767⟩ : ∃ v, L731 a0 5 = v := ⟨_, rfl⟩
                                                                        rw [c767] at p749
                                                                        obtain ⟨v768, c769⟩ : ∃ v, I729 a0 6 = v := ⟨_, rfl⟩
                                                                        rw [c769] at p750
                                                                        replace hF := hF.neg (by omega)
                                                                        replace hP := hP.neg (by omega)
                                                                        refine q_if_eq 116 dX7_readAlp_103 (by decide) (fun h770 => ?_) (fun h770 => ?_)
                                                                        · skip
                                                                          exfalso; omega
                                                                        · skip
                                                                          refine tr_aload_n dX7_readAlp_106 rfl ?_
                                                                          refine q_iconst dX7_readAlp_107 (by decide) ?_
                                                                          intro v771 h772
                                                                          refine q_bipush dX7_readAlp_108 (by decide +kernel) ?_
                                                                          intro v773 h774
                                                                          refine q_callVi hE (M' := mX7_takeWhole) (as := [_, _]) dX7_readAlp_110 lk7_115 inX7_takeWhole seX7_takeWhole myX7_takeWhole (by decide) ⟨by decide, by decide⟩ rfl (kR7 hS737.1 ta0) (Nat.le_of_ble_eq_true rfl) rfl rfl (by decide) (by decide) (fk_X7_takeWhole hS737.1 (gB) ((tkN gB (tkN gB (tkN gB (tkN gB (tkN gB (tkN gB (tkN gB (tkN gB (tkN gB (tkN gB (tkN gB (tkN gB (tkN gB gs)))))))))))))) ta0 (by omega) (by omega) (TxA.kp hT hS737 ta0 rfl rfl rfl (by decide +kernel) (by decide +kernel)) (by (try rw [c758]); first | done | omega) (by (try rw [c761]); first | done | omega) (by (try rw [c764]); first | done | omega) (by (try rw [c767]); first | done | assumption) (by (try rw [c769]); first | done | assumption) (by (try rw [((hS737.cell ta0 (by decide +kernel)).trans c20)]); first | done | omega)) ?_
                                                                          rintro v780 cn' K' N' I775 R776 L777 ⟨rfl, rfl, rfl, rfl, g778, gl779, h781, dj782, -⟩
                                                                          have hS783 := hS737.tr g778 (by decide +kernel) (by decide +kernel)
                                                                          have c784 : I775 a0 11 = v25 := (g778.cell ta0 (by decide +kernel)).trans c738
                                                                          have c785 : I775 a130 0 = v113 := (g778.cell ta130 (by decide +kernel)).trans c739
                                                                          have c786 : I775 a130 1 = v223 := (g778.cell ta130 (by decide +kernel)).trans c740
                                                                          have hL787 := hL742.tr gl779 (by decide +kernel)
                                                                          rcases dj782 with ⟨p788, p789, p790, p791, p792, p793, p794, p795, p796, p797, p798, -⟩ | ⟨p799, p800, p801, p802, -⟩ | ⟨p803, p804, p805, p806, p807, -⟩
                                                                          · skip
                                                                            obtain ⟨v808, c809⟩ : ∃ v, I775 a0 15 = v := ⟨_, rfl⟩
                                                                            rw [c809] at p789
                                                                            rw [c756] at p789
                                                                            obtain ⟨v810, c811⟩ : ∃ v, I775 a0 7 = v := ⟨_, rfl⟩
                                                                            have b812 := iv7_7 hS783.1 ta0 c811
                                                                            rw [c811] at p793
                                                                            obtain ⟨v813, c814⟩ : ∃ v, I775 a0 2 = v := ⟨_, rfl⟩
                                                                            have b815 := iv7_2 hS783.1 ta0 c814
                                                                            rw [c814] at p794
                                                                            obtain ⟨v816, c817⟩ : ∃ v, I775 a0 4 = v := ⟨_, rfl⟩
                                                                            have b818 := iv7_4 hS783.1 ta0 c817
                                                                            rw [c817] at p795
                                                                            obtain ⟨v819, c820⟩ : ∃ v, I775 a0 3 = v := ⟨_, rfl⟩
                                                                            have b821 := iv7_3 hS783.1 ta0 c820
                                                                            rw [c820] at p796
                                                                            obtain ⟨y822, c823⟩ : ∃ v, L777 a0 5 = v := ⟨_, rfl⟩
                                                                            rw [c823] at p797
                                                                            obtain ⟨v824, c825⟩ : ∃ v, I775 a0 6 = v := ⟨_, rfl⟩
                                                                            rw [c825] at p798
                                                                            replace hF := hF.neg (by omega)
                                                                            replace hP := hP.neg (by omega)
                                                                            replace hF := hF.neg (by omega)
                                                                            replace hP := hP.neg (by omega)
                                                                            refine q_if_ne 118 dX7_readAlp_113 (by decide) (fun h826 => ?_) (fun h826 => ?_)
                                                                            · skip
                                                                              refine tr_aload_n dX7_readAlp_118 rfl ?_
                                                                              refine tr_getR dX7_readAlp_119 fl7_22 (kR7 hS783.1 ta0) d131 ?_
                                                                              refine tr_getR dX7_readAlp_122 fl7_207 (kR2 hS783.1 ta130) d298 ?_
                                                                              refine tr_iload_n dX7_readAlp_125 rfl ?_
                                                                              refine tr_aload_n dX7_readAlp_126 rfl ?_
                                                                              refine q_getI dX7_readAlp_127 fl7_109 (kR7 hS783.1 ta0) c811 ?_
                                                                              refine q_iast dX7_readAlp_130 (kR18 hS783.1 ta297) (ti_in (nR18 hS783.1 ta297) (by omega) (by omega)) hS783 ta297 (iokF rfl) rfl (by rfl) ?_
                                                                              intro I827 hS828 e830 f829
                                                                              have c831 : I827 a0 11 = v25 := (f829 _ _ (fun q => by have z := ta0; rw [q.1, ta297] at z; exact absurd z (by decide))).trans c784
                                                                              have c832 : I827 a130 0 = v113 := (f829 _ _ (fun q => by have z := ta130; rw [q.1, ta297] at z; exact absurd z (by decide))).trans c785
                                                                              have c833 : I827 a130 1 = v223 := (f829 _ _ (fun q => by have z := ta130; rw [q.1, ta297] at z; exact absurd z (by decide))).trans c786
                                                                              have c834 : I827 a0 15 = v808 := (f829 _ _ (fun q => by have z := ta0; rw [q.1, ta297] at z; exact absurd z (by decide))).trans c809
                                                                              have c835 : I827 a0 7 = v810 := (f829 _ _ (fun q => by have z := ta0; rw [q.1, ta297] at z; exact absurd z (by decide))).trans c811
                                                                              have c836 : I827 a0 2 = v813 := (f829 _ _ (fun q => by have z := ta0; rw [q.1, ta297] at z; exact absurd z (by decide))).trans c814
                                                                              have c837 : I827 a0 4 = v816 := (f829 _ _ (fun q => by have z := ta0; rw [q.1, ta297] at z; exact absurd z (by decide))).trans c817
                                                                              have c838 : I827 a0 3 = v819 := (f829 _ _ (fun q => by have z := ta0; rw [q.1, ta297] at z; exact absurd z (by decide))).trans c820
                                                                              have c839 : I827 a0 6 = v824 := (f829 _ _ (fun q => by have z := ta0; rw [q.1, ta297] at z; exact absurd z (by decide))).trans c825
                                                                              refine q_iincE dX7_readAlp_131 rfl (by decide) (by decide) (by intros; omega) ?_
                                                                              intro v840 h841
                                                                              refine tr_goto 83 dX7_readAlp_134 (by decide) ?_
                                                                              refine tr_iload_n dX7_readAlp_83 rfl ?_
                                                                              refine tr_aload_n dX7_readAlp_84 rfl ?_
                                                                              refine tr_getR dX7_readAlp_85 fl7_22 (kR7 hS828.1 ta0) d131 ?_
                                                                              refine tr_getR dX7_readAlp_88 fl7_207 (kR2 hS828.1 ta130) d298 ?_
                                                                              refine q_alen dX7_readAlp_91 (kR18 hS828.1 ta297) (by decide) (by decide) (nR18 hS828.1 ta297) (by decide +kernel) ?_
                                                                              intro v842 h843
                                                                              refine q_icmp_ge 137 dX7_readAlp_92 (by decide) (fun h844 => ?_) (fun h844 => ?_)
                                                                              · skip
                                                                                refine q_iconst dX7_readAlp_137 (by decide) ?_
                                                                                intro v845 h846
                                                                                have eF := hF.eq
                                                                                have eP := hP.eq
                                                                                obtain ⟨v847, c848⟩ : ∃ v, I827 a0 16 = v := ⟨_, rfl⟩
                                                                                exact tr_zret hZ dX7_readAlp_138 rfl (ti_b01 (by omega) (by omega)) (by decide) (by decide) ⟨v845, rfl, rfl, rfl, rfl, rfl, hS828, hL787, (by omega), (Or.inl ⟨(by first | done | omega), (by (try rw [c834]); (try rw [c24]); first | done | omega), (by first | done | omega), (fun q0 z0 => by obtain rfl := Option.some.inj ((d131).symm.trans z0); (try rw [c832]); first | done | omega), (fun q0 z0 => by obtain rfl := Option.some.inj ((d131).symm.trans z0); (try rw [c833]); first | done | omega), (by (try rw [c831]); first | done | omega), (by (try rw [c836]); first | done | omega), (by (try rw [c837]); first | done | omega), (by (try rw [c838]); first | done | omega), (by (try rw [c823]); first | done | assumption), (by (try rw [c839]); first | done | assumption), trivial⟩), trivial⟩
                                                                              · skip
                                                                                exfalso; omega
                                                                            · skip
                                                                              exfalso; omega
                                                                          · skip
                                                                            obtain ⟨v849, c850⟩ : ∃ v, I775 a0 15 = v := ⟨_, rfl⟩
                                                                            rw [c850] at p801
                                                                            obtain ⟨v851, c852⟩ : ∃ v, I775 a0 16 = v := ⟨_, rfl⟩
                                                                            rw [c852] at p802
                                                                            replace hF := hF.pos (by omega)
                                                                            replace hP := hP.pos (by omega)
                                                                            refine q_if_ne 118 dX7_readAlp_113 (by decide) (fun h853 => ?_) (fun h853 => ?_)
                                                                            · skip
                                                                              exfalso; omega
                                                                            · skip
                                                                              refine q_iconst dX7_readAlp_116 (by decide) ?_
                                                                              intro v854 h855
                                                                              have eF := hF.eq
                                                                              have eP := hP.eq
                                                                              obtain ⟨v856, c857⟩ : ∃ v, I775 a0 2 = v := ⟨_, rfl⟩
                                                                              have b858 := iv7_2 hS783.1 ta0 c857
                                                                              obtain ⟨v859, c860⟩ : ∃ v, I775 a0 4 = v := ⟨_, rfl⟩
                                                                              have b861 := iv7_4 hS783.1 ta0 c860
                                                                              obtain ⟨v862, c863⟩ : ∃ v, I775 a0 3 = v := ⟨_, rfl⟩
                                                                              have b864 := iv7_3 hS783.1 ta0 c863
                                                                              obtain ⟨y865, c866⟩ : ∃ v, L777 a0 5 = v := ⟨_, rfl⟩
                                                                              obtain ⟨v867, c868⟩ : ∃ v, I775 a0 6 = v := ⟨_, rfl⟩
                                                                              exact tr_zret hZ dX7_readAlp_117 rfl (ti_b01 (by omega) (by omega)) (by decide) (by decide) ⟨v854, rfl, rfl, rfl, rfl, rfl, hS783, hL787, (by omega), (Or.inr (⟨(by first | done | omega), (by first | done | omega), (by (try rw [c850]); first | done | omega), (by (try rw [c852]); first | done | omega), trivial⟩)), trivial⟩
                                                                          · skip
                                                                            obtain ⟨v869, c870⟩ : ∃ v, I775 a0 15 = v := ⟨_, rfl⟩
                                                                            rw [c870] at p806
                                                                            obtain ⟨v871, c872⟩ : ∃ v, I775 a0 16 = v := ⟨_, rfl⟩
                                                                            rw [c872] at p807
                                                                            replace hF := hF.neg (by omega)
                                                                            replace hP := hP.neg (by omega)
                                                                            replace hF := hF.pos (by omega)
                                                                            replace hP := hP.pos (by omega)
                                                                            refine q_if_ne 118 dX7_readAlp_113 (by decide) (fun h873 => ?_) (fun h873 => ?_)
                                                                            · skip
                                                                              exfalso; omega
                                                                            · skip
                                                                              refine q_iconst dX7_readAlp_116 (by decide) ?_
                                                                              intro v874 h875
                                                                              have eF := hF.eq
                                                                              have eP := hP.eq
                                                                              obtain ⟨v876, c877⟩ : ∃ v, I775 a0 2 = v := ⟨_, rfl⟩
                                                                              have b878 := iv7_2 hS783.1 ta0 c877
                                                                              obtain ⟨v879, c880⟩ : ∃ v, I775 a0 4 = v := ⟨_, rfl⟩
                                                                              have b881 := iv7_4 hS783.1 ta0 c880
                                                                              obtain ⟨v882, c883⟩ : ∃ v, I775 a0 3 = v := ⟨_, rfl⟩
                                                                              have b884 := iv7_3 hS783.1 ta0 c883
                                                                              obtain ⟨y885, c886⟩ : ∃ v, L777 a0 5 = v := ⟨_, rfl⟩
                                                                              obtain ⟨v887, c888⟩ : ∃ v, I775 a0 6 = v := ⟨_, rfl⟩
                                                                              exact tr_zret hZ dX7_readAlp_117 rfl (ti_b01 (by omega) (by omega)) (by decide) (by decide) ⟨v874, rfl, rfl, rfl, rfl, rfl, hS783, hL787, (by omega), (Or.inr (⟨(by first | done | omega), (by first | done | omega), (by (try rw [c870]); first | done | omega), (by (try rw [c872]); first | done | omega), trivial⟩)), trivial⟩
                                                                      · skip
                                                                        obtain ⟨v889, c890⟩ : ∃ v, I729 a0 15 = v := ⟨_, rfl⟩
                                                                        rw [c890] at p753
                                                                        obtain ⟨v891, c892⟩ : ∃ v, I729 a0 16 = v := ⟨_, rfl⟩
                                                                        rw [c892] at p754
                                                                        replace hF := hF.pos (by omega)
                                                                        replace hP := hP.pos (by omega)
                                                                        refine q_if_eq 116 dX7_readAlp_103 (by decide) (fun h893 => ?_) (fun h893 => ?_)
                                                                        · skip
                                                                          refine q_iconst dX7_readAlp_116 (by decide) ?_
                                                                          intro v894 h895
                                                                          have eF := hF.eq
                                                                          have eP := hP.eq
                                                                          obtain ⟨v896, c897⟩ : ∃ v, I729 a0 2 = v := ⟨_, rfl⟩
                                                                          have b898 := iv7_2 hS737.1 ta0 c897
                                                                          obtain ⟨v899, c900⟩ : ∃ v, I729 a0 4 = v := ⟨_, rfl⟩
                                                                          have b901 := iv7_4 hS737.1 ta0 c900
                                                                          obtain ⟨v902, c903⟩ : ∃ v, I729 a0 3 = v := ⟨_, rfl⟩
                                                                          have b904 := iv7_3 hS737.1 ta0 c903
                                                                          obtain ⟨y905, c906⟩ : ∃ v, L731 a0 5 = v := ⟨_, rfl⟩
                                                                          obtain ⟨v907, c908⟩ : ∃ v, I729 a0 6 = v := ⟨_, rfl⟩
                                                                          exact tr_zret hZ dX7_readAlp_117 rfl (ti_b01 (by omega) (by omega)) (by decide) (by decide) ⟨v894, rfl, rfl, rfl, rfl, rfl, hS737, hL742, (by omega), (Or.inr (⟨(by first | done | omega), (by first | done | omega), (by (try rw [c890]); first | done | omega), (by (try rw [c892]); first | done | omega), trivial⟩)), trivial⟩
                                                                        · skip
                                                                          exfalso; omega
                                                                · skip
                                                                  exfalso; omega
                                                              · skip
                                                                obtain ⟨v909, c910⟩ : ∃ v, I658 a0 15 = v := ⟨_, rfl⟩
                                                                rw [c910] at p684
                                                                obtain ⟨v911, c912⟩ : ∃ v, I658 a0 16 = v := ⟨_, rfl⟩
                                                                rw [c912] at p685
                                                                replace hF := hF.pos (by omega)
                                                                replace hP := hP.pos (by omega)
                                                                refine q_if_ne 118 dX7_readAlp_113 (by decide) (fun h913 => ?_) (fun h913 => ?_)
                                                                · skip
                                                                  exfalso; omega
                                                                · skip
                                                                  refine q_iconst dX7_readAlp_116 (by decide) ?_
                                                                  intro v914 h915
                                                                  have eF := hF.eq
                                                                  have eP := hP.eq
                                                                  obtain ⟨v916, c917⟩ : ∃ v, I658 a0 2 = v := ⟨_, rfl⟩
                                                                  have b918 := iv7_2 hS666.1 ta0 c917
                                                                  obtain ⟨v919, c920⟩ : ∃ v, I658 a0 4 = v := ⟨_, rfl⟩
                                                                  have b921 := iv7_4 hS666.1 ta0 c920
                                                                  obtain ⟨v922, c923⟩ : ∃ v, I658 a0 3 = v := ⟨_, rfl⟩
                                                                  have b924 := iv7_3 hS666.1 ta0 c923
                                                                  obtain ⟨y925, c926⟩ : ∃ v, L660 a0 5 = v := ⟨_, rfl⟩
                                                                  obtain ⟨v927, c928⟩ : ∃ v, I658 a0 6 = v := ⟨_, rfl⟩
                                                                  exact tr_zret hZ dX7_readAlp_117 rfl (ti_b01 (by omega) (by omega)) (by decide) (by decide) ⟨v914, rfl, rfl, rfl, rfl, rfl, hS666, hL670, (by omega), (Or.inr (⟨(by first | done | omega), (by first | done | omega), (by (try rw [c910]); first | done | omega), (by (try rw [c912]); first | done | omega), trivial⟩)), trivial⟩
                                                              · skip
                                                                obtain ⟨v929, c930⟩ : ∃ v, I658 a0 15 = v := ⟨_, rfl⟩
                                                                rw [c930] at p689
                                                                obtain ⟨v931, c932⟩ : ∃ v, I658 a0 16 = v := ⟨_, rfl⟩
                                                                rw [c932] at p690
                                                                replace hF := hF.neg (by omega)
                                                                replace hP := hP.neg (by omega)
                                                                replace hF := hF.pos (by omega)
                                                                replace hP := hP.pos (by omega)
                                                                refine q_if_ne 118 dX7_readAlp_113 (by decide) (fun h933 => ?_) (fun h933 => ?_)
                                                                · skip
                                                                  exfalso; omega
                                                                · skip
                                                                  refine q_iconst dX7_readAlp_116 (by decide) ?_
                                                                  intro v934 h935
                                                                  have eF := hF.eq
                                                                  have eP := hP.eq
                                                                  obtain ⟨v936, c937⟩ : ∃ v, I658 a0 2 = v := ⟨_, rfl⟩
                                                                  have b938 := iv7_2 hS666.1 ta0 c937
                                                                  obtain ⟨v939, c940⟩ : ∃ v, I658 a0 4 = v := ⟨_, rfl⟩
                                                                  have b941 := iv7_4 hS666.1 ta0 c940
                                                                  obtain ⟨v942, c943⟩ : ∃ v, I658 a0 3 = v := ⟨_, rfl⟩
                                                                  have b944 := iv7_3 hS666.1 ta0 c943
                                                                  obtain ⟨y945, c946⟩ : ∃ v, L660 a0 5 = v := ⟨_, rfl⟩
                                                                  obtain ⟨v947, c948⟩ : ∃ v, I658 a0 6 = v := ⟨_, rfl⟩
                                                                  exact tr_zret hZ dX7_readAlp_117 rfl (ti_b01 (by omega) (by omega)) (by decide) (by decide) ⟨v934, rfl, rfl, rfl, rfl, rfl, hS666, hL670, (by omega), (Or.inr (⟨(by first | done | omega), (by first | done | omega), (by (try rw [c930]); first | done | omega), (by (try rw [c932]); first | done | omega), trivial⟩)), trivial⟩
                                                          · skip
                                                            obtain ⟨v949, c950⟩ : ∃ v, I612 a0 15 = v := ⟨_, rfl⟩
                                                            rw [c950] at p636
                                                            obtain ⟨v951, c952⟩ : ∃ v, I612 a0 16 = v := ⟨_, rfl⟩
                                                            rw [c952] at p637
                                                            replace hF := hF.pos (by omega)
                                                            replace hP := hP.pos (by omega)
                                                            refine q_if_eq 116 dX7_readAlp_103 (by decide) (fun h953 => ?_) (fun h953 => ?_)
                                                            · skip
                                                              refine q_iconst dX7_readAlp_116 (by decide) ?_
                                                              intro v954 h955
                                                              have eF := hF.eq
                                                              have eP := hP.eq
                                                              obtain ⟨v956, c957⟩ : ∃ v, I612 a0 2 = v := ⟨_, rfl⟩
                                                              have b958 := iv7_2 hS620.1 ta0 c957
                                                              obtain ⟨v959, c960⟩ : ∃ v, I612 a0 4 = v := ⟨_, rfl⟩
                                                              have b961 := iv7_4 hS620.1 ta0 c960
                                                              obtain ⟨v962, c963⟩ : ∃ v, I612 a0 3 = v := ⟨_, rfl⟩
                                                              have b964 := iv7_3 hS620.1 ta0 c963
                                                              obtain ⟨y965, c966⟩ : ∃ v, L614 a0 5 = v := ⟨_, rfl⟩
                                                              obtain ⟨v967, c968⟩ : ∃ v, I612 a0 6 = v := ⟨_, rfl⟩
                                                              exact tr_zret hZ dX7_readAlp_117 rfl (ti_b01 (by omega) (by omega)) (by decide) (by decide) ⟨v954, rfl, rfl, rfl, rfl, rfl, hS620, hL625, (by omega), (Or.inr (⟨(by first | done | omega), (by first | done | omega), (by (try rw [c950]); first | done | omega), (by (try rw [c952]); first | done | omega), trivial⟩)), trivial⟩
                                                            · skip
                                                              exfalso; omega
                                                    · skip
                                                      exfalso; omega
                                                  · skip
                                                    obtain ⟨v969, c970⟩ : ∃ v, I541 a0 15 = v := ⟨_, rfl⟩
                                                    rw [c970] at p567
                                                    obtain ⟨v971, c972⟩ : ∃ v, I541 a0 16 = v := ⟨_, rfl⟩
                                                    rw [c972] at p568
                                                    replace hF := hF.pos (by omega)
                                                    replace hP := hP.pos (by omega)
                                                    refine q_if_ne 118 dX7_readAlp_113 (by decide) (fun h973 => ?_) (fun h973 => ?_)
                                                    · skip
                                                      exfalso; omega
                                                    · skip
                                                      refine q_iconst dX7_readAlp_116 (by decide) ?_
                                                      intro v974 h975
                                                      have eF := hF.eq
                                                      have eP := hP.eq
                                                      obtain ⟨v976, c977⟩ : ∃ v, I541 a0 2 = v := ⟨_, rfl⟩
                                                      have b978 := iv7_2 hS549.1 ta0 c977
                                                      obtain ⟨v979, c980⟩ : ∃ v, I541 a0 4 = v := ⟨_, rfl⟩
                                                      have b981 := iv7_4 hS549.1 ta0 c980
                                                      obtain ⟨v982, c983⟩ : ∃ v, I541 a0 3 = v := ⟨_, rfl⟩
                                                      have b984 := iv7_3 hS549.1 ta0 c983
                                                      obtain ⟨y985, c986⟩ : ∃ v, L543 a0 5 = v := ⟨_, rfl⟩
                                                      obtain ⟨v987, c988⟩ : ∃ v, I541 a0 6 = v := ⟨_, rfl⟩
                                                      exact tr_zret hZ dX7_readAlp_117 rfl (ti_b01 (by omega) (by omega)) (by decide) (by decide) ⟨v974, rfl, rfl, rfl, rfl, rfl, hS549, hL553, (by omega), (Or.inr (⟨(by first | done | omega), (by first | done | omega), (by (try rw [c970]); first | done | omega), (by (try rw [c972]); first | done | omega), trivial⟩)), trivial⟩
                                                  · skip
                                                    obtain ⟨v989, c990⟩ : ∃ v, I541 a0 15 = v := ⟨_, rfl⟩
                                                    rw [c990] at p572
                                                    obtain ⟨v991, c992⟩ : ∃ v, I541 a0 16 = v := ⟨_, rfl⟩
                                                    rw [c992] at p573
                                                    replace hF := hF.neg (by omega)
                                                    replace hP := hP.neg (by omega)
                                                    replace hF := hF.pos (by omega)
                                                    replace hP := hP.pos (by omega)
                                                    refine q_if_ne 118 dX7_readAlp_113 (by decide) (fun h993 => ?_) (fun h993 => ?_)
                                                    · skip
                                                      exfalso; omega
                                                    · skip
                                                      refine q_iconst dX7_readAlp_116 (by decide) ?_
                                                      intro v994 h995
                                                      have eF := hF.eq
                                                      have eP := hP.eq
                                                      obtain ⟨v996, c997⟩ : ∃ v, I541 a0 2 = v := ⟨_, rfl⟩
                                                      have b998 := iv7_2 hS549.1 ta0 c997
                                                      obtain ⟨v999, c1000⟩ : ∃ v, I541 a0 4 = v := ⟨_, rfl⟩
                                                      have b1001 := iv7_4 hS549.1 ta0 c1000
                                                      obtain ⟨v1002, c1003⟩ : ∃ v, I541 a0 3 = v := ⟨_, rfl⟩
                                                      have b1004 := iv7_3 hS549.1 ta0 c1003
                                                      obtain ⟨y1005, c1006⟩ : ∃ v, L543 a0 5 = v := ⟨_, rfl⟩
                                                      obtain ⟨v1007, c1008⟩ : ∃ v, I541 a0 6 = v := ⟨_, rfl⟩
                                                      exact tr_zret hZ dX7_readAlp_117 rfl (ti_b01 (by omega) (by omega)) (by decide) (by decide) ⟨v994, rfl, rfl, rfl, rfl, rfl, hS549, hL553, (by omega), (Or.inr (⟨(by first | done | omega), (by first | done | omega), (by (try rw [c990]); first | done | omega), (by (try rw [c992]); first | done | omega), trivial⟩)), trivial⟩
                                              · skip
                                                obtain ⟨v1009, c1010⟩ : ∃ v, I495 a0 15 = v := ⟨_, rfl⟩
                                                rw [c1010] at p519
                                                obtain ⟨v1011, c1012⟩ : ∃ v, I495 a0 16 = v := ⟨_, rfl⟩
                                                rw [c1012] at p520
                                                replace hF := hF.pos (by omega)
                                                replace hP := hP.pos (by omega)
                                                refine q_if_eq 116 dX7_readAlp_103 (by decide) (fun h1013 => ?_) (fun h1013 => ?_)
                                                · skip
                                                  refine q_iconst dX7_readAlp_116 (by decide) ?_
                                                  intro v1014 h1015
                                                  have eF := hF.eq
                                                  have eP := hP.eq
                                                  obtain ⟨v1016, c1017⟩ : ∃ v, I495 a0 2 = v := ⟨_, rfl⟩
                                                  have b1018 := iv7_2 hS503.1 ta0 c1017
                                                  obtain ⟨v1019, c1020⟩ : ∃ v, I495 a0 4 = v := ⟨_, rfl⟩
                                                  have b1021 := iv7_4 hS503.1 ta0 c1020
                                                  obtain ⟨v1022, c1023⟩ : ∃ v, I495 a0 3 = v := ⟨_, rfl⟩
                                                  have b1024 := iv7_3 hS503.1 ta0 c1023
                                                  obtain ⟨y1025, c1026⟩ : ∃ v, L497 a0 5 = v := ⟨_, rfl⟩
                                                  obtain ⟨v1027, c1028⟩ : ∃ v, I495 a0 6 = v := ⟨_, rfl⟩
                                                  exact tr_zret hZ dX7_readAlp_117 rfl (ti_b01 (by omega) (by omega)) (by decide) (by decide) ⟨v1014, rfl, rfl, rfl, rfl, rfl, hS503, hL508, (by omega), (Or.inr (⟨(by first | done | omega), (by first | done | omega), (by (try rw [c1010]); first | done | omega), (by (try rw [c1012]); first | done | omega), trivial⟩)), trivial⟩
                                                · skip
                                                  exfalso; omega
                                        · skip
                                          exfalso; omega
                                      · skip
                                        obtain ⟨v1029, c1030⟩ : ∃ v, I424 a0 15 = v := ⟨_, rfl⟩
                                        rw [c1030] at p450
                                        obtain ⟨v1031, c1032⟩ : ∃ v, I424 a0 16 = v := ⟨_, rfl⟩
                                        rw [c1032] at p451
                                        replace hF := hF.pos (by omega)
                                        replace hP := hP.pos (by omega)
                                        refine q_if_ne 118 dX7_readAlp_113 (by decide) (fun h1033 => ?_) (fun h1033 => ?_)
                                        · skip
                                          exfalso; omega
                                        · skip
                                          refine q_iconst dX7_readAlp_116 (by decide) ?_
                                          intro v1034 h1035
                                          have eF := hF.eq
                                          have eP := hP.eq
                                          obtain ⟨v1036, c1037⟩ : ∃ v, I424 a0 2 = v := ⟨_, rfl⟩
                                          have b1038 := iv7_2 hS432.1 ta0 c1037
                                          obtain ⟨v1039, c1040⟩ : ∃ v, I424 a0 4 = v := ⟨_, rfl⟩
                                          have b1041 := iv7_4 hS432.1 ta0 c1040
                                          obtain ⟨v1042, c1043⟩ : ∃ v, I424 a0 3 = v := ⟨_, rfl⟩
                                          have b1044 := iv7_3 hS432.1 ta0 c1043
                                          obtain ⟨y1045, c1046⟩ : ∃ v, L426 a0 5 = v := ⟨_, rfl⟩
                                          obtain ⟨v1047, c1048⟩ : ∃ v, I424 a0 6 = v := ⟨_, rfl⟩
                                          exact tr_zret hZ dX7_readAlp_117 rfl (ti_b01 (by omega) (by omega)) (by decide) (by decide) ⟨v1034, rfl, rfl, rfl, rfl, rfl, hS432, hL436, (by omega), (Or.inr (⟨(by first | done | omega), (by first | done | omega), (by (try rw [c1030]); first | done | omega), (by (try rw [c1032]); first | done | omega), trivial⟩)), trivial⟩
                                      · skip
                                        obtain ⟨v1049, c1050⟩ : ∃ v, I424 a0 15 = v := ⟨_, rfl⟩
                                        rw [c1050] at p455
                                        obtain ⟨v1051, c1052⟩ : ∃ v, I424 a0 16 = v := ⟨_, rfl⟩
                                        rw [c1052] at p456
                                        replace hF := hF.neg (by omega)
                                        replace hP := hP.neg (by omega)
                                        replace hF := hF.pos (by omega)
                                        replace hP := hP.pos (by omega)
                                        refine q_if_ne 118 dX7_readAlp_113 (by decide) (fun h1053 => ?_) (fun h1053 => ?_)
                                        · skip
                                          exfalso; omega
                                        · skip
                                          refine q_iconst dX7_readAlp_116 (by decide) ?_
                                          intro v1054 h1055
                                          have eF := hF.eq
                                          have eP := hP.eq
                                          obtain ⟨v1056, c1057⟩ : ∃ v, I424 a0 2 = v := ⟨_, rfl⟩
                                          have b1058 := iv7_2 hS432.1 ta0 c1057
                                          obtain ⟨v1059, c1060⟩ : ∃ v, I424 a0 4 = v := ⟨_, rfl⟩
                                          have b1061 := iv7_4 hS432.1 ta0 c1060
                                          obtain ⟨v1062, c1063⟩ : ∃ v, I424 a0 3 = v := ⟨_, rfl⟩
                                          have b1064 := iv7_3 hS432.1 ta0 c1063
                                          obtain ⟨y1065, c1066⟩ : ∃ v, L426 a0 5 = v := ⟨_, rfl⟩
                                          obtain ⟨v1067, c1068⟩ : ∃ v, I424 a0 6 = v := ⟨_, rfl⟩
                                          exact tr_zret hZ dX7_readAlp_117 rfl (ti_b01 (by omega) (by omega)) (by decide) (by decide) ⟨v1054, rfl, rfl, rfl, rfl, rfl, hS432, hL436, (by omega), (Or.inr (⟨(by first | done | omega), (by first | done | omega), (by (try rw [c1050]); first | done | omega), (by (try rw [c1052]); first | done | omega), trivial⟩)), trivial⟩
                                  · skip
                                    obtain ⟨v1069, c1070⟩ : ∃ v, I378 a0 15 = v := ⟨_, rfl⟩
                                    rw [c1070] at p402
                                    obtain ⟨v1071, c1072⟩ : ∃ v, I378 a0 16 = v := ⟨_, rfl⟩
                                    rw [c1072] at p403
                                    replace hF := hF.pos (by omega)
                                    replace hP := hP.pos (by omega)
                                    refine q_if_eq 116 dX7_readAlp_103 (by decide) (fun h1073 => ?_) (fun h1073 => ?_)
                                    · skip
                                      refine q_iconst dX7_readAlp_116 (by decide) ?_
                                      intro v1074 h1075
                                      have eF := hF.eq
                                      have eP := hP.eq
                                      obtain ⟨v1076, c1077⟩ : ∃ v, I378 a0 2 = v := ⟨_, rfl⟩
                                      have b1078 := iv7_2 hS386.1 ta0 c1077
                                      obtain ⟨v1079, c1080⟩ : ∃ v, I378 a0 4 = v := ⟨_, rfl⟩
                                      have b1081 := iv7_4 hS386.1 ta0 c1080
                                      obtain ⟨v1082, c1083⟩ : ∃ v, I378 a0 3 = v := ⟨_, rfl⟩
                                      have b1084 := iv7_3 hS386.1 ta0 c1083
                                      obtain ⟨y1085, c1086⟩ : ∃ v, L380 a0 5 = v := ⟨_, rfl⟩
                                      obtain ⟨v1087, c1088⟩ : ∃ v, I378 a0 6 = v := ⟨_, rfl⟩
                                      exact tr_zret hZ dX7_readAlp_117 rfl (ti_b01 (by omega) (by omega)) (by decide) (by decide) ⟨v1074, rfl, rfl, rfl, rfl, rfl, hS386, hL391, (by omega), (Or.inr (⟨(by first | done | omega), (by first | done | omega), (by (try rw [c1070]); first | done | omega), (by (try rw [c1072]); first | done | omega), trivial⟩)), trivial⟩
                                    · skip
                                      exfalso; omega
                            · skip
                              exfalso; omega
                          · skip
                            obtain ⟨v1089, c1090⟩ : ∃ v, I307 a0 15 = v := ⟨_, rfl⟩
                            rw [c1090] at p333
                            obtain ⟨v1091, c1092⟩ : ∃ v, I307 a0 16 = v := ⟨_, rfl⟩
                            rw [c1092] at p334
                            replace hF := hF.pos (by omega)
                            replace hP := hP.pos (by omega)
                            refine q_if_ne 118 dX7_readAlp_113 (by decide) (fun h1093 => ?_) (fun h1093 => ?_)
                            · skip
                              exfalso; omega
                            · skip
                              refine q_iconst dX7_readAlp_116 (by decide) ?_
                              intro v1094 h1095
                              have eF := hF.eq
                              have eP := hP.eq
                              obtain ⟨v1096, c1097⟩ : ∃ v, I307 a0 2 = v := ⟨_, rfl⟩
                              have b1098 := iv7_2 hS315.1 ta0 c1097
                              obtain ⟨v1099, c1100⟩ : ∃ v, I307 a0 4 = v := ⟨_, rfl⟩
                              have b1101 := iv7_4 hS315.1 ta0 c1100
                              obtain ⟨v1102, c1103⟩ : ∃ v, I307 a0 3 = v := ⟨_, rfl⟩
                              have b1104 := iv7_3 hS315.1 ta0 c1103
                              obtain ⟨y1105, c1106⟩ : ∃ v, L309 a0 5 = v := ⟨_, rfl⟩
                              obtain ⟨v1107, c1108⟩ : ∃ v, I307 a0 6 = v := ⟨_, rfl⟩
                              exact tr_zret hZ dX7_readAlp_117 rfl (ti_b01 (by omega) (by omega)) (by decide) (by decide) ⟨v1094, rfl, rfl, rfl, rfl, rfl, hS315, hL319, (by omega), (Or.inr (⟨(by first | done | omega), (by first | done | omega), (by (try rw [c1090]); first | done | omega), (by (try rw [c1092]); first | done | omega), trivial⟩)), trivial⟩
                          · skip
                            obtain ⟨v1109, c1110⟩ : ∃ v, I307 a0 15 = v := ⟨_, rfl⟩
                            rw [c1110] at p338
                            obtain ⟨v1111, c1112⟩ : ∃ v, I307 a0 16 = v := ⟨_, rfl⟩
                            rw [c1112] at p339
                            replace hF := hF.neg (by omega)
                            replace hP := hP.neg (by omega)
                            replace hF := hF.pos (by omega)
                            replace hP := hP.pos (by omega)
                            refine q_if_ne 118 dX7_readAlp_113 (by decide) (fun h1113 => ?_) (fun h1113 => ?_)
                            · skip
                              exfalso; omega
                            · skip
                              refine q_iconst dX7_readAlp_116 (by decide) ?_
                              intro v1114 h1115
                              have eF := hF.eq
                              have eP := hP.eq
                              obtain ⟨v1116, c1117⟩ : ∃ v, I307 a0 2 = v := ⟨_, rfl⟩
                              have b1118 := iv7_2 hS315.1 ta0 c1117
                              obtain ⟨v1119, c1120⟩ : ∃ v, I307 a0 4 = v := ⟨_, rfl⟩
                              have b1121 := iv7_4 hS315.1 ta0 c1120
                              obtain ⟨v1122, c1123⟩ : ∃ v, I307 a0 3 = v := ⟨_, rfl⟩
                              have b1124 := iv7_3 hS315.1 ta0 c1123
                              obtain ⟨y1125, c1126⟩ : ∃ v, L309 a0 5 = v := ⟨_, rfl⟩
                              obtain ⟨v1127, c1128⟩ : ∃ v, I307 a0 6 = v := ⟨_, rfl⟩
                              exact tr_zret hZ dX7_readAlp_117 rfl (ti_b01 (by omega) (by omega)) (by decide) (by decide) ⟨v1114, rfl, rfl, rfl, rfl, rfl, hS315, hL319, (by omega), (Or.inr (⟨(by first | done | omega), (by first | done | omega), (by (try rw [c1110]); first | done | omega), (by (try rw [c1112]); first | done | omega), trivial⟩)), trivial⟩
                        · skip
                          exfalso; omega
                    · skip
                      exfalso; omega
                  · skip
                    obtain ⟨v1129, c1130⟩ : ∃ v, I252 a0 15 = v := ⟨_, rfl⟩
                    rw [c1130] at p277
                    obtain ⟨v1131, c1132⟩ : ∃ v, I252 a0 16 = v := ⟨_, rfl⟩
                    rw [c1132] at p278
                    replace hF := hF.pos (by omega)
                    replace hP := hP.pos (by omega)
                    refine q_if_ne 81 dX7_readAlp_76 (by decide) (fun h1133 => ?_) (fun h1133 => ?_)
                    · skip
                      exfalso; omega
                    · skip
                      refine q_iconst dX7_readAlp_79 (by decide) ?_
                      intro v1134 h1135
                      have eF := hF.eq
                      have eP := hP.eq
                      obtain ⟨v1136, c1137⟩ : ∃ v, I252 a0 2 = v := ⟨_, rfl⟩
                      have b1138 := iv7_2 hS260.1 ta0 c1137
                      obtain ⟨v1139, c1140⟩ : ∃ v, I252 a0 4 = v := ⟨_, rfl⟩
                      have b1141 := iv7_4 hS260.1 ta0 c1140
                      obtain ⟨v1142, c1143⟩ : ∃ v, I252 a0 3 = v := ⟨_, rfl⟩
                      have b1144 := iv7_3 hS260.1 ta0 c1143
                      obtain ⟨y1145, c1146⟩ : ∃ v, L254 a0 5 = v := ⟨_, rfl⟩
                      obtain ⟨v1147, c1148⟩ : ∃ v, I252 a0 6 = v := ⟨_, rfl⟩
                      exact tr_zret hZ dX7_readAlp_80 rfl (ti_b01 (by omega) (by omega)) (by decide) (by decide) ⟨v1134, rfl, rfl, rfl, rfl, rfl, hS260, hL265, (by omega), (Or.inr (⟨(by first | done | omega), (by first | done | omega), (by (try rw [c1130]); first | done | omega), (by (try rw [c1132]); first | done | omega), trivial⟩)), trivial⟩
                · skip
                  exfalso; omega
              · skip
                obtain ⟨v1149, c1150⟩ : ∃ v, I189 a0 15 = v := ⟨_, rfl⟩
                rw [c1150] at p214
                obtain ⟨v1151, c1152⟩ : ∃ v, I189 a0 16 = v := ⟨_, rfl⟩
                rw [c1152] at p215
                replace hF := hF.pos (by omega)
                replace hP := hP.pos (by omega)
                refine q_if_ne 59 dX7_readAlp_54 (by decide) (fun h1153 => ?_) (fun h1153 => ?_)
                · skip
                  exfalso; omega
                · skip
                  refine q_iconst dX7_readAlp_57 (by decide) ?_
                  intro v1154 h1155
                  have eF := hF.eq
                  have eP := hP.eq
                  obtain ⟨v1156, c1157⟩ : ∃ v, I189 a130 1 = v := ⟨_, rfl⟩
                  have b1158 := iv2_1 hS197.1 ta130 c1157
                  obtain ⟨v1159, c1160⟩ : ∃ v, I189 a0 2 = v := ⟨_, rfl⟩
                  have b1161 := iv7_2 hS197.1 ta0 c1160
                  obtain ⟨v1162, c1163⟩ : ∃ v, I189 a0 4 = v := ⟨_, rfl⟩
                  have b1164 := iv7_4 hS197.1 ta0 c1163
                  obtain ⟨v1165, c1166⟩ : ∃ v, I189 a0 3 = v := ⟨_, rfl⟩
                  have b1167 := iv7_3 hS197.1 ta0 c1166
                  obtain ⟨y1168, c1169⟩ : ∃ v, L191 a0 5 = v := ⟨_, rfl⟩
                  obtain ⟨v1170, c1171⟩ : ∃ v, I189 a0 6 = v := ⟨_, rfl⟩
                  exact tr_zret hZ dX7_readAlp_58 rfl (ti_b01 (by omega) (by omega)) (by decide) (by decide) ⟨v1154, rfl, rfl, rfl, rfl, rfl, hS197, hL200, (by omega), (Or.inr (⟨(by first | done | omega), (by first | done | omega), (by (try rw [c1150]); first | done | omega), (by (try rw [c1152]); first | done | omega), trivial⟩)), trivial⟩
              · skip
                obtain ⟨v1172, c1173⟩ : ∃ v, I189 a0 15 = v := ⟨_, rfl⟩
                rw [c1173] at p219
                obtain ⟨v1174, c1175⟩ : ∃ v, I189 a0 16 = v := ⟨_, rfl⟩
                rw [c1175] at p220
                replace hF := hF.neg (by omega)
                replace hP := hP.neg (by omega)
                replace hF := hF.pos (by omega)
                replace hP := hP.pos (by omega)
                refine q_if_ne 59 dX7_readAlp_54 (by decide) (fun h1176 => ?_) (fun h1176 => ?_)
                · skip
                  exfalso; omega
                · skip
                  refine q_iconst dX7_readAlp_57 (by decide) ?_
                  intro v1177 h1178
                  have eF := hF.eq
                  have eP := hP.eq
                  obtain ⟨v1179, c1180⟩ : ∃ v, I189 a130 1 = v := ⟨_, rfl⟩
                  have b1181 := iv2_1 hS197.1 ta130 c1180
                  obtain ⟨v1182, c1183⟩ : ∃ v, I189 a0 2 = v := ⟨_, rfl⟩
                  have b1184 := iv7_2 hS197.1 ta0 c1183
                  obtain ⟨v1185, c1186⟩ : ∃ v, I189 a0 4 = v := ⟨_, rfl⟩
                  have b1187 := iv7_4 hS197.1 ta0 c1186
                  obtain ⟨v1188, c1189⟩ : ∃ v, I189 a0 3 = v := ⟨_, rfl⟩
                  have b1190 := iv7_3 hS197.1 ta0 c1189
                  obtain ⟨y1191, c1192⟩ : ∃ v, L191 a0 5 = v := ⟨_, rfl⟩
                  obtain ⟨v1193, c1194⟩ : ∃ v, I189 a0 6 = v := ⟨_, rfl⟩
                  exact tr_zret hZ dX7_readAlp_58 rfl (ti_b01 (by omega) (by omega)) (by decide) (by decide) ⟨v1177, rfl, rfl, rfl, rfl, rfl, hS197, hL200, (by omega), (Or.inr (⟨(by first | done | omega), (by first | done | omega), (by (try rw [c1173]); first | done | omega), (by (try rw [c1175]); first | done | omega), trivial⟩)), trivial⟩
          · skip
            obtain ⟨v1195, c1196⟩ : ∃ v, I143 a0 15 = v := ⟨_, rfl⟩
            rw [c1196] at p167
            obtain ⟨v1197, c1198⟩ : ∃ v, I143 a0 16 = v := ⟨_, rfl⟩
            rw [c1198] at p168
            replace hF := hF.pos (by omega)
            replace hP := hP.pos (by omega)
            refine q_if_eq 57 dX7_readAlp_45 (by decide) (fun h1199 => ?_) (fun h1199 => ?_)
            · skip
              refine q_iconst dX7_readAlp_57 (by decide) ?_
              intro v1200 h1201
              have eF := hF.eq
              have eP := hP.eq
              obtain ⟨v1202, c1203⟩ : ∃ v, I143 a130 1 = v := ⟨_, rfl⟩
              have b1204 := iv2_1 hS151.1 ta130 c1203
              obtain ⟨v1205, c1206⟩ : ∃ v, I143 a0 2 = v := ⟨_, rfl⟩
              have b1207 := iv7_2 hS151.1 ta0 c1206
              obtain ⟨v1208, c1209⟩ : ∃ v, I143 a0 4 = v := ⟨_, rfl⟩
              have b1210 := iv7_4 hS151.1 ta0 c1209
              obtain ⟨v1211, c1212⟩ : ∃ v, I143 a0 3 = v := ⟨_, rfl⟩
              have b1213 := iv7_3 hS151.1 ta0 c1212
              obtain ⟨y1214, c1215⟩ : ∃ v, L145 a0 5 = v := ⟨_, rfl⟩
              obtain ⟨v1216, c1217⟩ : ∃ v, I143 a0 6 = v := ⟨_, rfl⟩
              exact tr_zret hZ dX7_readAlp_58 rfl (ti_b01 (by omega) (by omega)) (by decide) (by decide) ⟨v1200, rfl, rfl, rfl, rfl, rfl, hS151, hL155, (by omega), (Or.inr (⟨(by first | done | omega), (by first | done | omega), (by (try rw [c1196]); first | done | omega), (by (try rw [c1198]); first | done | omega), trivial⟩)), trivial⟩
            · skip
              exfalso; omega
        · skip
          exfalso; omega
      · skip
        obtain ⟨v1218, c1219⟩ : ∃ v, I80 a0 15 = v := ⟨_, rfl⟩
        rw [c1219] at p104
        obtain ⟨v1220, c1221⟩ : ∃ v, I80 a0 16 = v := ⟨_, rfl⟩
        rw [c1221] at p105
        replace hF := hF.pos (by omega)
        replace hP := hP.pos (by omega)
        refine q_if_ne 28 dX7_readAlp_23 (by decide) (fun h1222 => ?_) (fun h1222 => ?_)
        · skip
          exfalso; omega
        · skip
          refine q_iconst dX7_readAlp_26 (by decide) ?_
          intro v1223 h1224
          have eF := hF.eq
          have eP := hP.eq
          obtain ⟨a1225, d1226, ta1225⟩ := rf7_10 hW0 ta0
          obtain ⟨v1227, c1228⟩ : ∃ v, I80 a1225 0 = v := ⟨_, rfl⟩
          have b1229 := iv2_0 hS88.1 ta1225 c1228
          obtain ⟨v1230, c1231⟩ : ∃ v, I80 a1225 1 = v := ⟨_, rfl⟩
          have b1232 := iv2_1 hS88.1 ta1225 c1231
          obtain ⟨v1233, c1234⟩ : ∃ v, I80 a0 2 = v := ⟨_, rfl⟩
          have b1235 := iv7_2 hS88.1 ta0 c1234
          obtain ⟨v1236, c1237⟩ : ∃ v, I80 a0 4 = v := ⟨_, rfl⟩
          have b1238 := iv7_4 hS88.1 ta0 c1237
          obtain ⟨v1239, c1240⟩ : ∃ v, I80 a0 3 = v := ⟨_, rfl⟩
          have b1241 := iv7_3 hS88.1 ta0 c1240
          obtain ⟨y1242, c1243⟩ : ∃ v, L82 a0 5 = v := ⟨_, rfl⟩
          obtain ⟨v1244, c1245⟩ : ∃ v, I80 a0 6 = v := ⟨_, rfl⟩
          exact tr_zret hZ dX7_readAlp_27 rfl (ti_b01 (by omega) (by omega)) (by decide) (by decide) ⟨v1223, rfl, rfl, rfl, rfl, rfl, hS88, hL90, (by omega), (Or.inr (⟨(by first | done | omega), (by first | done | omega), (by (try rw [c1219]); first | done | omega), (by (try rw [c1221]); first | done | omega), trivial⟩)), trivial⟩
      · skip
        obtain ⟨v1246, c1247⟩ : ∃ v, I80 a0 15 = v := ⟨_, rfl⟩
        rw [c1247] at p109
        obtain ⟨v1248, c1249⟩ : ∃ v, I80 a0 16 = v := ⟨_, rfl⟩
        rw [c1249] at p110
        replace hF := hF.neg (by omega)
        replace hP := hP.neg (by omega)
        replace hF := hF.pos (by omega)
        replace hP := hP.pos (by omega)
        refine q_if_ne 28 dX7_readAlp_23 (by decide) (fun h1250 => ?_) (fun h1250 => ?_)
        · skip
          exfalso; omega
        · skip
          refine q_iconst dX7_readAlp_26 (by decide) ?_
          intro v1251 h1252
          have eF := hF.eq
          have eP := hP.eq
          obtain ⟨a1253, d1254, ta1253⟩ := rf7_10 hW0 ta0
          obtain ⟨v1255, c1256⟩ : ∃ v, I80 a1253 0 = v := ⟨_, rfl⟩
          have b1257 := iv2_0 hS88.1 ta1253 c1256
          obtain ⟨v1258, c1259⟩ : ∃ v, I80 a1253 1 = v := ⟨_, rfl⟩
          have b1260 := iv2_1 hS88.1 ta1253 c1259
          obtain ⟨v1261, c1262⟩ : ∃ v, I80 a0 2 = v := ⟨_, rfl⟩
          have b1263 := iv7_2 hS88.1 ta0 c1262
          obtain ⟨v1264, c1265⟩ : ∃ v, I80 a0 4 = v := ⟨_, rfl⟩
          have b1266 := iv7_4 hS88.1 ta0 c1265
          obtain ⟨v1267, c1268⟩ : ∃ v, I80 a0 3 = v := ⟨_, rfl⟩
          have b1269 := iv7_3 hS88.1 ta0 c1268
          obtain ⟨y1270, c1271⟩ : ∃ v, L82 a0 5 = v := ⟨_, rfl⟩
          obtain ⟨v1272, c1273⟩ : ∃ v, I80 a0 6 = v := ⟨_, rfl⟩
          exact tr_zret hZ dX7_readAlp_27 rfl (ti_b01 (by omega) (by omega)) (by decide) (by decide) ⟨v1251, rfl, rfl, rfl, rfl, rfl, hS88, hL90, (by omega), (Or.inr (⟨(by first | done | omega), (by first | done | omega), (by (try rw [c1247]); first | done | omega), (by (try rw [c1249]); first | done | omega), trivial⟩)), trivial⟩
  · skip
    obtain ⟨v1274, c1275⟩ : ∃ v, I36 a0 15 = v := ⟨_, rfl⟩
    rw [c1275] at p58
    obtain ⟨v1276, c1277⟩ : ∃ v, I36 a0 16 = v := ⟨_, rfl⟩
    rw [c1277] at p59
    replace hF := hF.pos (by omega)
    replace hP := hP.pos (by omega)
    refine q_if_eq 26 dX7_readAlp_11 (by decide) (fun h1278 => ?_) (fun h1278 => ?_)
    · skip
      refine q_iconst dX7_readAlp_26 (by decide) ?_
      intro v1279 h1280
      have eF := hF.eq
      have eP := hP.eq
      obtain ⟨a1281, d1282, ta1281⟩ := rf7_10 hW0 ta0
      obtain ⟨v1283, c1284⟩ : ∃ v, I36 a1281 0 = v := ⟨_, rfl⟩
      have b1285 := iv2_0 hS44.1 ta1281 c1284
      obtain ⟨v1286, c1287⟩ : ∃ v, I36 a1281 1 = v := ⟨_, rfl⟩
      have b1288 := iv2_1 hS44.1 ta1281 c1287
      obtain ⟨v1289, c1290⟩ : ∃ v, I36 a0 2 = v := ⟨_, rfl⟩
      have b1291 := iv7_2 hS44.1 ta0 c1290
      obtain ⟨v1292, c1293⟩ : ∃ v, I36 a0 4 = v := ⟨_, rfl⟩
      have b1294 := iv7_4 hS44.1 ta0 c1293
      obtain ⟨v1295, c1296⟩ : ∃ v, I36 a0 3 = v := ⟨_, rfl⟩
      have b1297 := iv7_3 hS44.1 ta0 c1296
      obtain ⟨y1298, c1299⟩ : ∃ v, L38 a0 5 = v := ⟨_, rfl⟩
      obtain ⟨v1300, c1301⟩ : ∃ v, I36 a0 6 = v := ⟨_, rfl⟩
      exact tr_zret hZ dX7_readAlp_27 rfl (ti_b01 (by omega) (by omega)) (by decide) (by decide) ⟨v1279, rfl, rfl, rfl, rfl, rfl, hS44, hL46, (by omega), (Or.inr (⟨(by first | done | omega), (by first | done | omega), (by (try rw [c1275]); first | done | omega), (by (try rw [c1277]); first | done | omega), trivial⟩)), trivial⟩
    · skip
      exfalso; omega
def wik_X7_readEvent : List Nat := [131, 192, 193, 194, 195, 450, 451, 452, 454, 455, 456, 457, 463, 464]
def wrk_X7_readEvent : List Nat := []
def wlk_X7_readEvent : List Nat := [453]
set_option maxHeartbeats 4000000 in
theorem fk_X7_readEvent {l : Launch} {T : Nat → Nat} {cn : Nat} {K N : Nat → Nat} {I0 : cz_I} {R0 : cz_R} {L0 : cz_L} {d : Int} (hW0 : Wf T cn K N I0 R0 d) (gB : cz_B) (gs : Int) (gQ : Nat → Int) (gk : Int) {a0 : Nat} (ta0 : T a0 = 7) {x1 : Int32} (hx1 : 0 ≤ x1.toInt ∧ x1.toInt ≤ 4) (hT : ∀ t, R0 a0 0 = some t → Tx I0 t gB) (pre0 : (I0 a0 2).toInt = (tkN gB gs)) (pre1 : (I0 a0 4).toInt = (tkS gB gs)) (pre2 : (I0 a0 3).toInt = (tkK gB gs)) (pre3 : (AtW ((tkK gB gs)) ((L0 a0 5).toInt) ((tkW gB gs)))) (pre4 : (AtV ((tkK gB gs)) ((I0 a0 6).toInt) ((tkV gB gs)))) (pre5 : (I0 a0 1).toInt = (gB.2)) (pre6 : ∀ b1, R0 a0 10 = some b1 → (I0 b1 0).toInt = (gQ 0)) (pre7 : ∀ b1, R0 a0 10 = some b1 → (I0 b1 1).toInt = (gQ 1)) (pre8 : ∀ b1, R0 a0 10 = some b1 → (I0 b1 3).toInt = (gQ 2)) (pre9 : x1.toInt = (gk)) (pre10 : (gQ 2) ≤ 13) : ConE l mX7_readEvent [.ref a0, .int x1] cn K N I0 R0 L0 (ca_i (fun v cn' K' N' I' R' L' => cn = cn' ∧ K = K' ∧ N = N' ∧ R0 = R' ∧ St T cn K N d wik_X7_readEvent wrk_X7_readEvent I0 R0 I' R0 ∧ LgS T wlk_X7_readEvent L0 L' ∧ (0 ≤ v.toInt ∧ v.toInt ≤ 1) ∧ (((v.toInt = 1) ∧ ((I' a0 15).toInt = (I0 a0 15).toInt) ∧ ((evF gB gQ gk gs) = 0) ∧ (∀ b1, R0 a0 10 = some b1 → (I' b1 3).toInt = (gQ 2) + 1) ∧ ((I' a0 2).toInt = (tkN gB (evS gB gQ gk gs))) ∧ ((I' a0 4).toInt = (tkS gB (evS gB gQ gk gs))) ∧ ((I' a0 3).toInt = (tkK gB (evS gB gQ gk gs))) ∧ ((AtW ((tkK gB (evS gB gQ gk gs))) ((L' a0 5).toInt) ((tkW gB (evS gB gQ gk gs))))) ∧ ((AtV ((tkK gB (evS gB gQ gk gs))) ((I' a0 6).toInt) ((tkV gB (evS gB gQ gk gs))))) ∧ True) ∨ ((v.toInt = 0) ∧ ((evF gB gQ gk gs) ≠ 0) ∧ ((I' a0 15).toInt = (evF gB gQ gk gs)) ∧ ((I' a0 16).toInt = (evP gB gQ gk gs)) ∧ True)) ∧ True)) := by
  refine ConE.of (by decide +kernel) rfl (Nat.le_of_ble_eq_true rfl) rfl (fun X hX hZ hE => ?_)
  subst hX
  have hS0 : St T cn K N d wik_X7_readEvent wrk_X7_readEvent I0 R0 I0 R0 := St.rf0 hW0
  have hL0 : LgS T wlk_X7_readEvent L0 L0 := LgS.rf0
  obtain ⟨v1, c2⟩ : ∃ v, I0 a0 2 = v := ⟨_, rfl⟩
  have b3 := iv7_2 hS0.1 ta0 c2
  have p4 := pre0
  rw [c2] at p4
  obtain ⟨v5, c6⟩ : ∃ v, I0 a0 4 = v := ⟨_, rfl⟩
  have b7 := iv7_4 hS0.1 ta0 c6
  have p8 := pre1
  rw [c6] at p8
  obtain ⟨v9, c10⟩ : ∃ v, I0 a0 3 = v := ⟨_, rfl⟩
  have b11 := iv7_3 hS0.1 ta0 c10
  have p12 := pre2
  rw [c10] at p12
  obtain ⟨y13, c14⟩ : ∃ v, L0 a0 5 = v := ⟨_, rfl⟩
  have p15 := pre3
  rw [c14] at p15
  obtain ⟨v16, c17⟩ : ∃ v, I0 a0 6 = v := ⟨_, rfl⟩
  have p18 := pre4
  rw [c17] at p18
  obtain ⟨v19, c20⟩ : ∃ v, I0 a0 1 = v := ⟨_, rfl⟩
  have b21 := iv7_1 hW0 ta0 c20
  have p22 := pre5
  rw [c20] at p22
  obtain ⟨a23, d24, ta23⟩ := rf7_10 hW0 ta0
  obtain ⟨v25, c26⟩ : ∃ v, I0 a23 0 = v := ⟨_, rfl⟩
  have b27 := iv2_0 hW0 ta23 c26
  have p28 := pre6 _ d24
  rw [c26] at p28
  obtain ⟨v29, c30⟩ : ∃ v, I0 a23 1 = v := ⟨_, rfl⟩
  have b31 := iv2_1 hW0 ta23 c30
  have p32 := pre7 _ d24
  rw [c30] at p32
  obtain ⟨v33, c34⟩ : ∃ v, I0 a23 3 = v := ⟨_, rfl⟩
  have b35 := iv2_3 hS0.1 ta23 c34
  have p36 := pre8 _ d24
  rw [c34] at p36
  have p37 := pre9
  have p38 := pre10
  obtain ⟨v39, c40⟩ : ∃ v, I0 a0 15 = v := ⟨_, rfl⟩
  refine tr_aload_n dX7_readEvent_0 rfl ?_
  refine tr_getR dX7_readEvent_1 fl7_22 (kR7 hS0.1 ta0) d24 ?_
  obtain ⟨a41, d42, ta41⟩ := rf2_4 hW0 ta23
  refine tr_getR dX7_readEvent_4 fl7_213 (kR2 hS0.1 ta23) d42 ?_
  refine tr_aload_n dX7_readEvent_7 rfl ?_
  refine tr_getR dX7_readEvent_8 fl7_22 (kR7 hS0.1 ta0) d24 ?_
  refine q_getI dX7_readEvent_11 fl7_165 (kR2 hS0.1 ta23) c34 ?_
  obtain ⟨a43, d44, ta43⟩ := rf19 hS0.1 ta41 (j := v33.toNatClampNeg) (ti_lt (by omega) (by omega))
  refine tr_aald dX7_readEvent_14 (kR19 hS0.1 ta41) (by decide) (by decide) (ti_in (nR19 hS0.1 ta41) (by omega) (by omega)) d44 ?_
  refine tr_astore_n dX7_readEvent_15 (by decide) (by decide) ?_
  refine tr_aload_n dX7_readEvent_16 rfl ?_
  refine tr_iload_n dX7_readEvent_17 rfl ?_
  refine q_putI dX7_readEvent_18 fl7_217 (kR3 hS0.1 ta43) (Or.inl rfl) hS0 ta43 (iokF rfl) rfl (by decide +kernel) ?_
  intro I45 hS46 e47 f48
  have c49 : I45 a0 2 = v1 := (f48 _ _ (fun q => absurd q.2 (by decide))).trans c2
  have c50 : I45 a0 4 = v5 := (f48 _ _ (fun q => absurd q.2 (by decide))).trans c6
  have c51 : I45 a0 3 = v9 := (f48 _ _ (fun q => absurd q.2 (by decide))).trans c10
  have c52 : I45 a0 6 = v16 := (f48 _ _ (fun q => absurd q.2 (by decide))).trans c17
  have c53 : I45 a23 3 = v33 := (f48 _ _ (fun q => absurd q.2 (by decide))).trans c34
  have c54 : I45 a0 15 = v39 := (f48 _ _ (fun q => absurd q.2 (by decide))).trans c40
  refine tr_aload_n dX7_readEvent_21 rfl ?_
  refine q_bipush dX7_readEvent_22 (by decide +kernel) ?_
  intro v55 h56
  refine q_putI dX7_readEvent_24 fl7_220 (kR3 hS46.1 ta43) (Or.inl rfl) hS46 ta43 (iokF rfl) rfl (by decide +kernel) ?_
  intro I57 hS58 e59 f60
  have c61 : I57 a0 2 = v1 := (f60 _ _ (fun q => absurd q.2 (by decide))).trans c49
  have c62 : I57 a0 4 = v5 := (f60 _ _ (fun q => absurd q.2 (by decide))).trans c50
  have c63 : I57 a0 3 = v9 := (f60 _ _ (fun q => absurd q.2 (by decide))).trans c51
  have c64 : I57 a0 6 = v16 := (f60 _ _ (fun q => absurd q.2 (by decide))).trans c52
  have c65 : I57 a23 3 = v33 := (f60 _ _ (fun q => absurd q.2 (by decide))).trans c53
  have c66 : I57 a0 15 = v39 := (f60 _ _ (fun q => absurd q.2 (by decide))).trans c54
  have c67 : I57 a43 0 = x1 := (f60 _ _ (fun q => absurd q.2 (by decide))).trans e47
  refine tr_iload_n dX7_readEvent_27 rfl ?_
  refine q_iconst dX7_readEvent_28 (by decide) ?_
  intro v68 h69
  refine q_icmp_eq 37 dX7_readEvent_29 (by decide) (fun h70 => ?_) (fun h70 => ?_)
  · skip
    refine tr_aload_n dX7_readEvent_37 rfl ?_
    refine q_callVi hE (M' := mX7_takeHut) (as := []) dX7_readEvent_38 lk7_223 inX7_takeHut seX7_takeHut myX7_takeHut (by decide) ⟨by decide, by decide⟩ rfl (kR7 hS58.1 ta0) (Nat.le_of_ble_eq_true rfl) rfl rfl (by decide) (by decide) (fk_X7_takeHut hS58.1 (gB) (gs) (gQ) ta0 (TxA.kp hT hS58 ta0 rfl rfl rfl (by decide +kernel) (by decide +kernel)) (by (try rw [c61]); first | done | omega) (by (try rw [c62]); first | done | omega) (by (try rw [c63]); first | done | omega) (by (try rw [c14]); first | done | assumption) (by (try rw [c64]); first | done | assumption) (by (try rw [((hS58.cell ta0 (by decide +kernel)).trans c20)]); first | done | omega) (fun q0 z0 => by obtain rfl := Option.some.inj ((d24).symm.trans z0); (try rw [((hS58.cell ta23 (by decide +kernel)).trans c30)]); first | done | omega)) ?_
    rintro v76 cn' K' N' I71 R72 L73 ⟨rfl, rfl, rfl, rfl, g74, gl75, h77, dj78, -⟩
    have hS79 := hS58.tr g74 (by decide +kernel) (by decide +kernel)
    have c80 : I71 a23 3 = v33 := (g74.cell ta23 (by decide +kernel)).trans c65
    have c81 : I71 a43 0 = x1 := (g74.cell ta43 (by decide +kernel)).trans c67
    have c82 : I71 a43 1 = v55 := (g74.cell ta43 (by decide +kernel)).trans e59
    have hL83 := hL0.tr gl75 (by decide +kernel)
    rcases dj78 with ⟨p84, p85, p86, p87, p88, p89, p90, p91, p92, p93, p94, -⟩ | ⟨p95, p96, p97, p98, -⟩ | ⟨p99, p100, p101, p102, p103, -⟩
    · skip
      obtain ⟨v104, c105⟩ : ∃ v, I71 a0 15 = v := ⟨_, rfl⟩
      rw [c105] at p85
      rw [c66] at p85
      obtain ⟨v106, c107⟩ : ∃ v, I71 a0 7 = v := ⟨_, rfl⟩
      have b108 := iv7_7 hS79.1 ta0 c107
      rw [c107] at p89
      obtain ⟨v109, c110⟩ : ∃ v, I71 a0 2 = v := ⟨_, rfl⟩
      have b111 := iv7_2 hS79.1 ta0 c110
      rw [c110] at p90
      obtain ⟨v112, c113⟩ : ∃ v, I71 a0 4 = v := ⟨_, rfl⟩
      have b114 := iv7_4 hS79.1 ta0 c113
      rw [c113] at p91
      obtain ⟨v115, c116⟩ : ∃ v, I71 a0 3 = v := ⟨_, rfl⟩
      have b117 := iv7_3 hS79.1 ta0 c116
      rw [c116] at p92
      obtain ⟨y118, c119⟩ : ∃ v, L73 a0 5 = v := ⟨_, rfl⟩
      rw [c119] at p93
      obtain ⟨v120, c121⟩ : ∃ v, I71 a0 6 = v := ⟨_, rfl⟩
      rw [c121] at p94
      refine q_if_ne 46 dX7_readEvent_41 (by decide) (fun h122 => ?_) (fun h122 => ?_)
      · skip
        refine tr_aload_n dX7_readEvent_46 rfl ?_
        refine tr_aload_n dX7_readEvent_47 rfl ?_
        refine q_getI dX7_readEvent_48 fl7_109 (kR7 hS79.1 ta0) c107 ?_
        refine q_putI dX7_readEvent_51 fl7_220 (kR3 hS79.1 ta43) (Or.inl rfl) hS79 ta43 (iokF rfl) rfl (by decide +kernel) ?_
        intro I123 hS124 e125 f126
        have c127 : I123 a23 3 = v33 := (f126 _ _ (fun q => absurd q.2 (by decide))).trans c80
        have c128 : I123 a43 0 = x1 := (f126 _ _ (fun q => absurd q.2 (by decide))).trans c81
        have c129 : I123 a0 15 = v104 := (f126 _ _ (fun q => absurd q.2 (by decide))).trans c105
        have c130 : I123 a0 7 = v106 := (f126 _ _ (fun q => absurd q.2 (by decide))).trans c107
        have c131 : I123 a0 2 = v109 := (f126 _ _ (fun q => absurd q.2 (by decide))).trans c110
        have c132 : I123 a0 4 = v112 := (f126 _ _ (fun q => absurd q.2 (by decide))).trans c113
        have c133 : I123 a0 3 = v115 := (f126 _ _ (fun q => absurd q.2 (by decide))).trans c116
        have c134 : I123 a0 6 = v120 := (f126 _ _ (fun q => absurd q.2 (by decide))).trans c121
        refine tr_iload_n dX7_readEvent_54 rfl ?_
        refine q_iconst dX7_readEvent_55 (by decide) ?_
        intro v135 h136
        refine q_icmp_ne 99 dX7_readEvent_56 (by decide) (fun h137 => ?_) (fun h137 => ?_)
        · skip
          refine tr_aload_n dX7_readEvent_99 rfl ?_
          refine q_callVi hE (M' := mX7_takeSpan) (as := []) dX7_readEvent_100 lk7_226 inX7_takeSpan seX7_takeSpan myX7_takeSpan (by decide) ⟨by decide, by decide⟩ rfl (kR7 hS124.1 ta0) (Nat.le_of_ble_eq_true rfl) rfl rfl (by decide) (by decide) (fk_X7_takeSpan hS124.1 (gB) ((tkN gB gs)) (gQ) ta0 (TxA.kp hT hS124 ta0 rfl rfl rfl (by decide +kernel) (by decide +kernel)) (by (try rw [c131]); first | done | omega) (by (try rw [c132]); first | done | omega) (by (try rw [c133]); first | done | omega) (by (try rw [c119]); first | done | assumption) (by (try rw [c134]); first | done | assumption) (by (try rw [((hS124.cell ta0 (by decide +kernel)).trans c20)]); first | done | omega) (fun q0 z0 => by obtain rfl := Option.some.inj ((d24).symm.trans z0); (try rw [((hS124.cell ta23 (by decide +kernel)).trans c26)]); first | done | omega)) ?_
          rintro v143 cn' K' N' I138 R139 L140 ⟨rfl, rfl, rfl, rfl, g141, gl142, h144, dj145, -⟩
          have hS146 := hS124.tr g141 (by decide +kernel) (by decide +kernel)
          have c147 : I138 a23 3 = v33 := (g141.cell ta23 (by decide +kernel)).trans c127
          have c148 : I138 a43 0 = x1 := (g141.cell ta43 (by decide +kernel)).trans c128
          have c149 : I138 a43 1 = v106 := (g141.cell ta43 (by decide +kernel)).trans e125
          have hL150 := hL83.tr gl142 (by decide +kernel)
          rcases dj145 with ⟨p151, p152, p153, p154, p155, p156, p157, p158, p159, p160, -⟩ | ⟨p161, p162, p163, p164, -⟩
          · skip
            obtain ⟨v165, c166⟩ : ∃ v, I138 a0 15 = v := ⟨_, rfl⟩
            rw [c166] at p152
            rw [c129] at p152
            obtain ⟨v167, c168⟩ : ∃ v, I138 a0 8 = v := ⟨_, rfl⟩
            have b169 := iv7_8 hS146.1 ta0 c168
            rw [c168] at p154
            obtain ⟨v170, c171⟩ : ∃ v, I138 a0 9 = v := ⟨_, rfl⟩
            have b172 := iv7_9 hS146.1 ta0 c171
            rw [c171] at p155
            obtain ⟨v173, c174⟩ : ∃ v, I138 a0 2 = v := ⟨_, rfl⟩
            have b175 := iv7_2 hS146.1 ta0 c174
            rw [c174] at p156
            obtain ⟨v176, c177⟩ : ∃ v, I138 a0 4 = v := ⟨_, rfl⟩
            have b178 := iv7_4 hS146.1 ta0 c177
            rw [c177] at p157
            obtain ⟨v179, c180⟩ : ∃ v, I138 a0 3 = v := ⟨_, rfl⟩
            have b181 := iv7_3 hS146.1 ta0 c180
            rw [c180] at p158
            obtain ⟨y182, c183⟩ : ∃ v, L140 a0 5 = v := ⟨_, rfl⟩
            rw [c183] at p159
            obtain ⟨v184, c185⟩ : ∃ v, I138 a0 6 = v := ⟨_, rfl⟩
            rw [c185] at p160
            refine q_if_ne 108 dX7_readEvent_103 (by decide) (fun h186 => ?_) (fun h186 => ?_)
            · skip
              refine tr_aload_n dX7_readEvent_108 rfl ?_
              refine tr_aload_n dX7_readEvent_109 rfl ?_
              refine q_getI dX7_readEvent_110 fl7_121 (kR7 hS146.1 ta0) c168 ?_
              refine q_putI dX7_readEvent_113 fl7_229 (kR3 hS146.1 ta43) (Or.inl rfl) hS146 ta43 (by show (0 : Int) ≤ v167.toInt ∧ v167.toInt ≤ (240 : Int); omega) rfl (by decide +kernel) ?_
              intro I187 hS188 e189 f190
              have c191 : I187 a23 3 = v33 := (f190 _ _ (fun q => absurd q.2 (by decide))).trans c147
              have c192 : I187 a43 0 = x1 := (f190 _ _ (fun q => absurd q.2 (by decide))).trans c148
              have c193 : I187 a43 1 = v106 := (f190 _ _ (fun q => absurd q.2 (by decide))).trans c149
              have c194 : I187 a0 15 = v165 := (f190 _ _ (fun q => absurd q.2 (by decide))).trans c166
              have c195 : I187 a0 8 = v167 := (f190 _ _ (fun q => absurd q.2 (by decide))).trans c168
              have c196 : I187 a0 9 = v170 := (f190 _ _ (fun q => absurd q.2 (by decide))).trans c171
              have c197 : I187 a0 2 = v173 := (f190 _ _ (fun q => by have z := ta0; rw [q.1, ta43] at z; exact absurd z (by decide))).trans c174
              have c198 : I187 a0 4 = v176 := (f190 _ _ (fun q => absurd q.2 (by decide))).trans c177
              have c199 : I187 a0 3 = v179 := (f190 _ _ (fun q => absurd q.2 (by decide))).trans c180
              have c200 : I187 a0 6 = v184 := (f190 _ _ (fun q => absurd q.2 (by decide))).trans c185
              refine tr_aload_n dX7_readEvent_116 rfl ?_
              refine tr_aload_n dX7_readEvent_117 rfl ?_
              refine q_getI dX7_readEvent_118 fl7_129 (kR7 hS188.1 ta0) c196 ?_
              refine q_putI dX7_readEvent_121 fl7_230 (kR3 hS188.1 ta43) (Or.inl rfl) hS188 ta43 (by show (0 : Int) ≤ v170.toInt ∧ v170.toInt ≤ (240 : Int); omega) rfl (by decide +kernel) ?_
              intro I201 hS202 e203 f204
              have c205 : I201 a23 3 = v33 := (f204 _ _ (fun q => by have z := ta23; rw [q.1, ta43] at z; exact absurd z (by decide))).trans c191
              have c206 : I201 a43 0 = x1 := (f204 _ _ (fun q => absurd q.2 (by decide))).trans c192
              have c207 : I201 a43 1 = v106 := (f204 _ _ (fun q => absurd q.2 (by decide))).trans c193
              have c208 : I201 a0 15 = v165 := (f204 _ _ (fun q => absurd q.2 (by decide))).trans c194
              have c209 : I201 a0 8 = v167 := (f204 _ _ (fun q => absurd q.2 (by decide))).trans c195
              have c210 : I201 a0 9 = v170 := (f204 _ _ (fun q => absurd q.2 (by decide))).trans c196
              have c211 : I201 a0 2 = v173 := (f204 _ _ (fun q => absurd q.2 (by decide))).trans c197
              have c212 : I201 a0 4 = v176 := (f204 _ _ (fun q => absurd q.2 (by decide))).trans c198
              have c213 : I201 a0 3 = v179 := (f204 _ _ (fun q => by have z := ta0; rw [q.1, ta43] at z; exact absurd z (by decide))).trans c199
              have c214 : I201 a0 6 = v184 := (f204 _ _ (fun q => absurd q.2 (by decide))).trans c200
              have c215 : I201 a43 2 = v167 := (f204 _ _ (fun q => absurd q.2 (by decide))).trans e189
              refine tr_aload_n dX7_readEvent_124 rfl ?_
              refine tr_getR dX7_readEvent_125 fl7_22 (kR7 hS202.1 ta0) d24 ?_
              refine tr_dup dX7_readEvent_128 rfl ?_
              refine q_getI dX7_readEvent_129 fl7_165 (kR2 hS202.1 ta23) c205 ?_
              refine q_iconst dX7_readEvent_132 (by decide) ?_
              intro v216 h217
              refine q_iaddE dX7_readEvent_133 (by intros; omega) ?_
              intro v218 h219
              refine q_putI dX7_readEvent_134 fl7_165 (kR2 hS202.1 ta23) (Or.inl rfl) hS202 ta23 (by show (0 : Int) ≤ v218.toInt ∧ v218.toInt ≤ (14 : Int); omega) rfl (by decide +kernel) ?_
              intro I220 hS221 e222 f223
              have c224 : I220 a43 0 = x1 := (f223 _ _ (fun q => absurd q.2 (by decide))).trans c206
              have c225 : I220 a43 1 = v106 := (f223 _ _ (fun q => absurd q.2 (by decide))).trans c207
              have c226 : I220 a0 15 = v165 := (f223 _ _ (fun q => absurd q.2 (by decide))).trans c208
              have c227 : I220 a0 8 = v167 := (f223 _ _ (fun q => absurd q.2 (by decide))).trans c209
              have c228 : I220 a0 9 = v170 := (f223 _ _ (fun q => absurd q.2 (by decide))).trans c210
              have c229 : I220 a0 2 = v173 := (f223 _ _ (fun q => absurd q.2 (by decide))).trans c211
              have c230 : I220 a0 4 = v176 := (f223 _ _ (fun q => absurd q.2 (by decide))).trans c212
              have c231 : I220 a0 3 = v179 := (f223 _ _ (fun q => by have z := ta0; rw [q.1, ta23] at z; exact absurd z (by decide))).trans c213
              have c232 : I220 a0 6 = v184 := (f223 _ _ (fun q => absurd q.2 (by decide))).trans c214
              have c233 : I220 a43 2 = v167 := (f223 _ _ (fun q => absurd q.2 (by decide))).trans c215
              have c234 : I220 a43 3 = v170 := (f223 _ _ (fun q => by have z := ta43; rw [q.1, ta23] at z; exact absurd z (by decide))).trans e203
              refine q_iconst dX7_readEvent_137 (by decide) ?_
              intro v235 h236
              have es237 : evS gB gQ gk gs = (tkN gB (tkN gB (tkN gB (tkN gB gs)))) := by simp only [evS, ↓reduceIte]; repeat' (first | split | omega)
              obtain ⟨v238, c239⟩ : ∃ v, I220 a0 16 = v := ⟨_, rfl⟩
              exact tr_zret hZ dX7_readEvent_138 rfl (ti_b01 (by omega) (by omega)) (by decide) (by decide) ⟨v235, rfl, rfl, rfl, rfl, rfl, hS221, hL150, (by omega), (Or.inl ⟨(by (try rw [es237]); first | done | omega), (by (try rw [es237]); (try rw [c226]); (try rw [c40]); first | done | omega), (by (try rw [es237]); first | done | omega | (simp only [evF, evP, ↓reduceIte]; repeat' (first | split | omega))), (fun q0 z0 => by obtain rfl := Option.some.inj ((d24).symm.trans z0); (try rw [es237]); (try rw [e222]); first | done | omega), (by (try rw [es237]); (try rw [c229]); first | done | omega), (by (try rw [es237]); (try rw [c230]); first | done | omega), (by (try rw [es237]); (try rw [c231]); first | done | omega), (by (try rw [es237]); (try rw [c183]); first | done | assumption), (by (try rw [es237]); (try rw [c232]); first | done | assumption), trivial⟩), trivial⟩
            · skip
              exfalso; omega
          · skip
            obtain ⟨v240, c241⟩ : ∃ v, I138 a0 15 = v := ⟨_, rfl⟩
            rw [c241] at p163
            obtain ⟨v242, c243⟩ : ∃ v, I138 a0 16 = v := ⟨_, rfl⟩
            rw [c243] at p164
            refine q_if_ne 108 dX7_readEvent_103 (by decide) (fun h244 => ?_) (fun h244 => ?_)
            · skip
              exfalso; omega
            · skip
              refine q_iconst dX7_readEvent_106 (by decide) ?_
              intro v245 h246
              obtain ⟨v247, c248⟩ : ∃ v, I138 a0 2 = v := ⟨_, rfl⟩
              have b249 := iv7_2 hS146.1 ta0 c248
              obtain ⟨v250, c251⟩ : ∃ v, I138 a0 4 = v := ⟨_, rfl⟩
              have b252 := iv7_4 hS146.1 ta0 c251
              obtain ⟨v253, c254⟩ : ∃ v, I138 a0 3 = v := ⟨_, rfl⟩
              have b255 := iv7_3 hS146.1 ta0 c254
              obtain ⟨y256, c257⟩ : ∃ v, L140 a0 5 = v := ⟨_, rfl⟩
              obtain ⟨v258, c259⟩ : ∃ v, I138 a0 6 = v := ⟨_, rfl⟩
              exact tr_zret hZ dX7_readEvent_107 rfl (ti_b01 (by omega) (by omega)) (by decide) (by decide) ⟨v245, rfl, rfl, rfl, rfl, rfl, hS146, hL150, (by omega), (Or.inr (⟨(by first | done | omega), (by first | done | omega | (simp only [evF, evP, ↓reduceIte]; repeat' (first | split | omega))), (by (try rw [c241]); first | done | omega | (simp only [evF, evP, ↓reduceIte]; repeat' (first | split | omega))), (by (try rw [c243]); first | done | omega | (simp only [evF, evP, ↓reduceIte]; repeat' (first | split | omega))), trivial⟩)), trivial⟩
        · skip
          exfalso; omega
      · skip
        exfalso; omega
    · skip
      obtain ⟨v260, c261⟩ : ∃ v, I71 a0 15 = v := ⟨_, rfl⟩
      rw [c261] at p97
      obtain ⟨v262, c263⟩ : ∃ v, I71 a0 16 = v := ⟨_, rfl⟩
      rw [c263] at p98
      refine q_if_ne 46 dX7_readEvent_41 (by decide) (fun h264 => ?_) (fun h264 => ?_)
      · skip
        exfalso; omega
      · skip
        refine q_iconst dX7_readEvent_44 (by decide) ?_
        intro v265 h266
        obtain ⟨v267, c268⟩ : ∃ v, I71 a0 2 = v := ⟨_, rfl⟩
        have b269 := iv7_2 hS79.1 ta0 c268
        obtain ⟨v270, c271⟩ : ∃ v, I71 a0 4 = v := ⟨_, rfl⟩
        have b272 := iv7_4 hS79.1 ta0 c271
        obtain ⟨v273, c274⟩ : ∃ v, I71 a0 3 = v := ⟨_, rfl⟩
        have b275 := iv7_3 hS79.1 ta0 c274
        obtain ⟨y276, c277⟩ : ∃ v, L73 a0 5 = v := ⟨_, rfl⟩
        obtain ⟨v278, c279⟩ : ∃ v, I71 a0 6 = v := ⟨_, rfl⟩
        exact tr_zret hZ dX7_readEvent_45 rfl (ti_b01 (by omega) (by omega)) (by decide) (by decide) ⟨v265, rfl, rfl, rfl, rfl, rfl, hS79, hL83, (by omega), (Or.inr (⟨(by first | done | omega), (by first | done | omega | (simp only [evF, evP, ↓reduceIte]; repeat' (first | split | omega))), (by (try rw [c261]); first | done | omega | (simp only [evF, evP, ↓reduceIte]; repeat' (first | split | omega))), (by (try rw [c263]); first | done | omega | (simp only [evF, evP, ↓reduceIte]; repeat' (first | split | omega))), trivial⟩)), trivial⟩
    · skip
      obtain ⟨v280, c281⟩ : ∃ v, I71 a0 15 = v := ⟨_, rfl⟩
      rw [c281] at p102
      obtain ⟨v282, c283⟩ : ∃ v, I71 a0 16 = v := ⟨_, rfl⟩
      rw [c283] at p103
      refine q_if_ne 46 dX7_readEvent_41 (by decide) (fun h284 => ?_) (fun h284 => ?_)
      · skip
        exfalso; omega
      · skip
        refine q_iconst dX7_readEvent_44 (by decide) ?_
        intro v285 h286
        obtain ⟨v287, c288⟩ : ∃ v, I71 a0 2 = v := ⟨_, rfl⟩
        have b289 := iv7_2 hS79.1 ta0 c288
        obtain ⟨v290, c291⟩ : ∃ v, I71 a0 4 = v := ⟨_, rfl⟩
        have b292 := iv7_4 hS79.1 ta0 c291
        obtain ⟨v293, c294⟩ : ∃ v, I71 a0 3 = v := ⟨_, rfl⟩
        have b295 := iv7_3 hS79.1 ta0 c294
        obtain ⟨y296, c297⟩ : ∃ v, L73 a0 5 = v := ⟨_, rfl⟩
        obtain ⟨v298, c299⟩ : ∃ v, I71 a0 6 = v := ⟨_, rfl⟩
        exact tr_zret hZ dX7_readEvent_45 rfl (ti_b01 (by omega) (by omega)) (by decide) (by decide) ⟨v285, rfl, rfl, rfl, rfl, rfl, hS79, hL83, (by omega), (Or.inr (⟨(by first | done | omega), (by first | done | omega | (simp only [evF, evP, ↓reduceIte]; repeat' (first | split | omega))), (by (try rw [c281]); first | done | omega | (simp only [evF, evP, ↓reduceIte]; repeat' (first | split | omega))), (by (try rw [c283]); first | done | omega | (simp only [evF, evP, ↓reduceIte]; repeat' (first | split | omega))), trivial⟩)), trivial⟩
  · skip
    refine tr_iload_n dX7_readEvent_32 rfl ?_
    refine q_iconst dX7_readEvent_33 (by decide) ?_
    intro v300 h301
    refine q_icmp_ne 54 dX7_readEvent_34 (by decide) (fun h302 => ?_) (fun h302 => ?_)
    · skip
      refine tr_iload_n dX7_readEvent_54 rfl ?_
      refine q_iconst dX7_readEvent_55 (by decide) ?_
      intro v303 h304
      refine q_icmp_ne 99 dX7_readEvent_56 (by decide) (fun h305 => ?_) (fun h305 => ?_)
      · skip
        refine tr_aload_n dX7_readEvent_99 rfl ?_
        refine q_callVi hE (M' := mX7_takeSpan) (as := []) dX7_readEvent_100 lk7_226 inX7_takeSpan seX7_takeSpan myX7_takeSpan (by decide) ⟨by decide, by decide⟩ rfl (kR7 hS58.1 ta0) (Nat.le_of_ble_eq_true rfl) rfl rfl (by decide) (by decide) (fk_X7_takeSpan hS58.1 (gB) (gs) (gQ) ta0 (TxA.kp hT hS58 ta0 rfl rfl rfl (by decide +kernel) (by decide +kernel)) (by (try rw [c61]); first | done | omega) (by (try rw [c62]); first | done | omega) (by (try rw [c63]); first | done | omega) (by (try rw [c14]); first | done | assumption) (by (try rw [c64]); first | done | assumption) (by (try rw [((hS58.cell ta0 (by decide +kernel)).trans c20)]); first | done | omega) (fun q0 z0 => by obtain rfl := Option.some.inj ((d24).symm.trans z0); (try rw [((hS58.cell ta23 (by decide +kernel)).trans c26)]); first | done | omega)) ?_
        rintro v311 cn' K' N' I306 R307 L308 ⟨rfl, rfl, rfl, rfl, g309, gl310, h312, dj313, -⟩
        have hS314 := hS58.tr g309 (by decide +kernel) (by decide +kernel)
        have c315 : I306 a23 3 = v33 := (g309.cell ta23 (by decide +kernel)).trans c65
        have c316 : I306 a43 0 = x1 := (g309.cell ta43 (by decide +kernel)).trans c67
        have c317 : I306 a43 1 = v55 := (g309.cell ta43 (by decide +kernel)).trans e59
        have hL318 := hL0.tr gl310 (by decide +kernel)
        rcases dj313 with ⟨p319, p320, p321, p322, p323, p324, p325, p326, p327, p328, -⟩ | ⟨p329, p330, p331, p332, -⟩
        · skip
          obtain ⟨v333, c334⟩ : ∃ v, I306 a0 15 = v := ⟨_, rfl⟩
          rw [c334] at p320
          rw [c66] at p320
          obtain ⟨v335, c336⟩ : ∃ v, I306 a0 8 = v := ⟨_, rfl⟩
          have b337 := iv7_8 hS314.1 ta0 c336
          rw [c336] at p322
          obtain ⟨v338, c339⟩ : ∃ v, I306 a0 9 = v := ⟨_, rfl⟩
          have b340 := iv7_9 hS314.1 ta0 c339
          rw [c339] at p323
          obtain ⟨v341, c342⟩ : ∃ v, I306 a0 2 = v := ⟨_, rfl⟩
          have b343 := iv7_2 hS314.1 ta0 c342
          rw [c342] at p324
          obtain ⟨v344, c345⟩ : ∃ v, I306 a0 4 = v := ⟨_, rfl⟩
          have b346 := iv7_4 hS314.1 ta0 c345
          rw [c345] at p325
          obtain ⟨v347, c348⟩ : ∃ v, I306 a0 3 = v := ⟨_, rfl⟩
          have b349 := iv7_3 hS314.1 ta0 c348
          rw [c348] at p326
          obtain ⟨y350, c351⟩ : ∃ v, L308 a0 5 = v := ⟨_, rfl⟩
          rw [c351] at p327
          obtain ⟨v352, c353⟩ : ∃ v, I306 a0 6 = v := ⟨_, rfl⟩
          rw [c353] at p328
          refine q_if_ne 108 dX7_readEvent_103 (by decide) (fun h354 => ?_) (fun h354 => ?_)
          · skip
            refine tr_aload_n dX7_readEvent_108 rfl ?_
            refine tr_aload_n dX7_readEvent_109 rfl ?_
            refine q_getI dX7_readEvent_110 fl7_121 (kR7 hS314.1 ta0) c336 ?_
            refine q_putI dX7_readEvent_113 fl7_229 (kR3 hS314.1 ta43) (Or.inl rfl) hS314 ta43 (by show (0 : Int) ≤ v335.toInt ∧ v335.toInt ≤ (240 : Int); omega) rfl (by decide +kernel) ?_
            intro I355 hS356 e357 f358
            have c359 : I355 a23 3 = v33 := (f358 _ _ (fun q => absurd q.2 (by decide))).trans c315
            have c360 : I355 a43 0 = x1 := (f358 _ _ (fun q => absurd q.2 (by decide))).trans c316
            have c361 : I355 a43 1 = v55 := (f358 _ _ (fun q => absurd q.2 (by decide))).trans c317
            have c362 : I355 a0 15 = v333 := (f358 _ _ (fun q => absurd q.2 (by decide))).trans c334
            have c363 : I355 a0 8 = v335 := (f358 _ _ (fun q => absurd q.2 (by decide))).trans c336
            have c364 : I355 a0 9 = v338 := (f358 _ _ (fun q => absurd q.2 (by decide))).trans c339
            have c365 : I355 a0 2 = v341 := (f358 _ _ (fun q => by have z := ta0; rw [q.1, ta43] at z; exact absurd z (by decide))).trans c342
            have c366 : I355 a0 4 = v344 := (f358 _ _ (fun q => absurd q.2 (by decide))).trans c345
            have c367 : I355 a0 3 = v347 := (f358 _ _ (fun q => absurd q.2 (by decide))).trans c348
            have c368 : I355 a0 6 = v352 := (f358 _ _ (fun q => absurd q.2 (by decide))).trans c353
            refine tr_aload_n dX7_readEvent_116 rfl ?_
            refine tr_aload_n dX7_readEvent_117 rfl ?_
            refine q_getI dX7_readEvent_118 fl7_129 (kR7 hS356.1 ta0) c364 ?_
            refine q_putI dX7_readEvent_121 fl7_230 (kR3 hS356.1 ta43) (Or.inl rfl) hS356 ta43 (by show (0 : Int) ≤ v338.toInt ∧ v338.toInt ≤ (240 : Int); omega) rfl (by decide +kernel) ?_
            intro I369 hS370 e371 f372
            have c373 : I369 a23 3 = v33 := (f372 _ _ (fun q => by have z := ta23; rw [q.1, ta43] at z; exact absurd z (by decide))).trans c359
            have c374 : I369 a43 0 = x1 := (f372 _ _ (fun q => absurd q.2 (by decide))).trans c360
            have c375 : I369 a43 1 = v55 := (f372 _ _ (fun q => absurd q.2 (by decide))).trans c361
            have c376 : I369 a0 15 = v333 := (f372 _ _ (fun q => absurd q.2 (by decide))).trans c362
            have c377 : I369 a0 8 = v335 := (f372 _ _ (fun q => absurd q.2 (by decide))).trans c363
            have c378 : I369 a0 9 = v338 := (f372 _ _ (fun q => absurd q.2 (by decide))).trans c364
            have c379 : I369 a0 2 = v341 := (f372 _ _ (fun q => absurd q.2 (by decide))).trans c365
            have c380 : I369 a0 4 = v344 := (f372 _ _ (fun q => absurd q.2 (by decide))).trans c366
            have c381 : I369 a0 3 = v347 := (f372 _ _ (fun q => by have z := ta0; rw [q.1, ta43] at z; exact absurd z (by decide))).trans c367
            have c382 : I369 a0 6 = v352 := (f372 _ _ (fun q => absurd q.2 (by decide))).trans c368
            have c383 : I369 a43 2 = v335 := (f372 _ _ (fun q => absurd q.2 (by decide))).trans e357
            refine tr_aload_n dX7_readEvent_124 rfl ?_
            refine tr_getR dX7_readEvent_125 fl7_22 (kR7 hS370.1 ta0) d24 ?_
            refine tr_dup dX7_readEvent_128 rfl ?_
            refine q_getI dX7_readEvent_129 fl7_165 (kR2 hS370.1 ta23) c373 ?_
            refine q_iconst dX7_readEvent_132 (by decide) ?_
            intro v384 h385
            refine q_iaddE dX7_readEvent_133 (by intros; omega) ?_
            intro v386 h387
            refine q_putI dX7_readEvent_134 fl7_165 (kR2 hS370.1 ta23) (Or.inl rfl) hS370 ta23 (by show (0 : Int) ≤ v386.toInt ∧ v386.toInt ≤ (14 : Int); omega) rfl (by decide +kernel) ?_
            intro I388 hS389 e390 f391
            have c392 : I388 a43 0 = x1 := (f391 _ _ (fun q => absurd q.2 (by decide))).trans c374
            have c393 : I388 a43 1 = v55 := (f391 _ _ (fun q => absurd q.2 (by decide))).trans c375
            have c394 : I388 a0 15 = v333 := (f391 _ _ (fun q => absurd q.2 (by decide))).trans c376
            have c395 : I388 a0 8 = v335 := (f391 _ _ (fun q => absurd q.2 (by decide))).trans c377
            have c396 : I388 a0 9 = v338 := (f391 _ _ (fun q => absurd q.2 (by decide))).trans c378
            have c397 : I388 a0 2 = v341 := (f391 _ _ (fun q => absurd q.2 (by decide))).trans c379
            have c398 : I388 a0 4 = v344 := (f391 _ _ (fun q => absurd q.2 (by decide))).trans c380
            have c399 : I388 a0 3 = v347 := (f391 _ _ (fun q => by have z := ta0; rw [q.1, ta23] at z; exact absurd z (by decide))).trans c381
            have c400 : I388 a0 6 = v352 := (f391 _ _ (fun q => absurd q.2 (by decide))).trans c382
            have c401 : I388 a43 2 = v335 := (f391 _ _ (fun q => absurd q.2 (by decide))).trans c383
            have c402 : I388 a43 3 = v338 := (f391 _ _ (fun q => by have z := ta43; rw [q.1, ta23] at z; exact absurd z (by decide))).trans e371
            refine q_iconst dX7_readEvent_137 (by decide) ?_
            intro v403 h404
            have es405 : evS gB gQ gk gs = (tkN gB (tkN gB (tkN gB gs))) := by simp only [evS, ↓reduceIte]; repeat' (first | split | omega)
            obtain ⟨v406, c407⟩ : ∃ v, I388 a0 16 = v := ⟨_, rfl⟩
            exact tr_zret hZ dX7_readEvent_138 rfl (ti_b01 (by omega) (by omega)) (by decide) (by decide) ⟨v403, rfl, rfl, rfl, rfl, rfl, hS389, hL318, (by omega), (Or.inl ⟨(by (try rw [es405]); first | done | omega), (by (try rw [es405]); (try rw [c394]); (try rw [c40]); first | done | omega), (by (try rw [es405]); first | done | omega | (simp only [evF, evP, ↓reduceIte]; repeat' (first | split | omega))), (fun q0 z0 => by obtain rfl := Option.some.inj ((d24).symm.trans z0); (try rw [es405]); (try rw [e390]); first | done | omega), (by (try rw [es405]); (try rw [c397]); first | done | omega), (by (try rw [es405]); (try rw [c398]); first | done | omega), (by (try rw [es405]); (try rw [c399]); first | done | omega), (by (try rw [es405]); (try rw [c351]); first | done | assumption), (by (try rw [es405]); (try rw [c400]); first | done | assumption), trivial⟩), trivial⟩
          · skip
            exfalso; omega
        · skip
          obtain ⟨v408, c409⟩ : ∃ v, I306 a0 15 = v := ⟨_, rfl⟩
          rw [c409] at p331
          obtain ⟨v410, c411⟩ : ∃ v, I306 a0 16 = v := ⟨_, rfl⟩
          rw [c411] at p332
          refine q_if_ne 108 dX7_readEvent_103 (by decide) (fun h412 => ?_) (fun h412 => ?_)
          · skip
            exfalso; omega
          · skip
            refine q_iconst dX7_readEvent_106 (by decide) ?_
            intro v413 h414
            obtain ⟨v415, c416⟩ : ∃ v, I306 a0 2 = v := ⟨_, rfl⟩
            have b417 := iv7_2 hS314.1 ta0 c416
            obtain ⟨v418, c419⟩ : ∃ v, I306 a0 4 = v := ⟨_, rfl⟩
            have b420 := iv7_4 hS314.1 ta0 c419
            obtain ⟨v421, c422⟩ : ∃ v, I306 a0 3 = v := ⟨_, rfl⟩
            have b423 := iv7_3 hS314.1 ta0 c422
            obtain ⟨y424, c425⟩ : ∃ v, L308 a0 5 = v := ⟨_, rfl⟩
            obtain ⟨v426, c427⟩ : ∃ v, I306 a0 6 = v := ⟨_, rfl⟩
            exact tr_zret hZ dX7_readEvent_107 rfl (ti_b01 (by omega) (by omega)) (by decide) (by decide) ⟨v413, rfl, rfl, rfl, rfl, rfl, hS314, hL318, (by omega), (Or.inr (⟨(by first | done | omega), (by first | done | omega | (simp only [evF, evP, ↓reduceIte]; repeat' (first | split | omega))), (by (try rw [c409]); first | done | omega | (simp only [evF, evP, ↓reduceIte]; repeat' (first | split | omega))), (by (try rw [c411]); first | done | omega | (simp only [evF, evP, ↓reduceIte]; repeat' (first | split | omega))), trivial⟩)), trivial⟩
      · skip
        refine tr_aload_n dX7_readEvent_59 rfl ?_
        refine q_iconst dX7_readEvent_60 (by decide) ?_
        intro v428 h429
        refine tr_aload_n dX7_readEvent_61 rfl ?_
        refine tr_getR dX7_readEvent_62 fl7_22 (kR7 hS58.1 ta0) d24 ?_
        refine q_getI dX7_readEvent_65 fl7_118 (kR2 hS58.1 ta23) ((hS58.cell ta23 (by decide +kernel)).trans c26) ?_
        refine q_iconst dX7_readEvent_68 (by decide) ?_
        intro v430 h431
        refine q_isubE dX7_readEvent_69 (by intros; omega) ?_
        intro v432 h433
        refine q_callVi hE (M' := mX7_takeWhole) (as := [_, _]) dX7_readEvent_70 lk7_115 inX7_takeWhole seX7_takeWhole myX7_takeWhole (by decide) ⟨by decide, by decide⟩ rfl (kR7 hS58.1 ta0) (Nat.le_of_ble_eq_true rfl) rfl rfl (by decide) (by decide) (fk_X7_takeWhole hS58.1 (gB) (gs) ta0 (by omega) (by omega) (TxA.kp hT hS58 ta0 rfl rfl rfl (by decide +kernel) (by decide +kernel)) (by (try rw [c61]); first | done | omega) (by (try rw [c62]); first | done | omega) (by (try rw [c63]); first | done | omega) (by (try rw [c14]); first | done | assumption) (by (try rw [c64]); first | done | assumption) (by (try rw [((hS58.cell ta0 (by decide +kernel)).trans c20)]); first | done | omega)) ?_
        rintro v439 cn' K' N' I434 R435 L436 ⟨rfl, rfl, rfl, rfl, g437, gl438, h440, dj441, -⟩
        have hS442 := hS58.tr g437 (by decide +kernel) (by decide +kernel)
        have c443 : I434 a23 3 = v33 := (g437.cell ta23 (by decide +kernel)).trans c65
        have c444 : I434 a43 0 = x1 := (g437.cell ta43 (by decide +kernel)).trans c67
        have c445 : I434 a43 1 = v55 := (g437.cell ta43 (by decide +kernel)).trans e59
        have hL446 := hL0.tr gl438 (by decide +kernel)
        rcases dj441 with ⟨p447, p448, p449, p450, p451, p452, p453, p454, p455, p456, p457, -⟩ | ⟨p458, p459, p460, p461, -⟩ | ⟨p462, p463, p464, p465, p466, -⟩
        · skip
          obtain ⟨v467, c468⟩ : ∃ v, I434 a0 15 = v := ⟨_, rfl⟩
          rw [c468] at p448
          rw [c66] at p448
          obtain ⟨v469, c470⟩ : ∃ v, I434 a0 7 = v := ⟨_, rfl⟩
          have b471 := iv7_7 hS442.1 ta0 c470
          rw [c470] at p452
          obtain ⟨v472, c473⟩ : ∃ v, I434 a0 2 = v := ⟨_, rfl⟩
          have b474 := iv7_2 hS442.1 ta0 c473
          rw [c473] at p453
          obtain ⟨v475, c476⟩ : ∃ v, I434 a0 4 = v := ⟨_, rfl⟩
          have b477 := iv7_4 hS442.1 ta0 c476
          rw [c476] at p454
          obtain ⟨v478, c479⟩ : ∃ v, I434 a0 3 = v := ⟨_, rfl⟩
          have b480 := iv7_3 hS442.1 ta0 c479
          rw [c479] at p455
          obtain ⟨y481, c482⟩ : ∃ v, L436 a0 5 = v := ⟨_, rfl⟩
          rw [c482] at p456
          obtain ⟨v483, c484⟩ : ∃ v, I434 a0 6 = v := ⟨_, rfl⟩
          rw [c484] at p457
          refine q_if_ne 78 dX7_readEvent_73 (by decide) (fun h485 => ?_) (fun h485 => ?_)
          · skip
            refine tr_aload_n dX7_readEvent_78 rfl ?_
            refine tr_aload_n dX7_readEvent_79 rfl ?_
            refine q_getI dX7_readEvent_80 fl7_109 (kR7 hS442.1 ta0) c470 ?_
            refine q_putI dX7_readEvent_83 fl7_121 (kR7 hS442.1 ta0) (Or.inl rfl) hS442 ta0 (by show (0 : Int) ≤ v469.toInt ∧ v469.toInt ≤ (240 : Int); omega) rfl (by decide +kernel) ?_
            intro I486 hS487 e488 f489
            have c490 : I486 a23 3 = v33 := (f489 _ _ (fun q => absurd q.2 (by decide))).trans c443
            have c491 : I486 a43 0 = x1 := (f489 _ _ (fun q => absurd q.2 (by decide))).trans c444
            have c492 : I486 a43 1 = v55 := (f489 _ _ (fun q => absurd q.2 (by decide))).trans c445
            have c493 : I486 a0 15 = v467 := (f489 _ _ (fun q => absurd q.2 (by decide))).trans c468
            have c494 : I486 a0 7 = v469 := (f489 _ _ (fun q => absurd q.2 (by decide))).trans c470
            have c495 : I486 a0 2 = v472 := (f489 _ _ (fun q => absurd q.2 (by decide))).trans c473
            have c496 : I486 a0 4 = v475 := (f489 _ _ (fun q => absurd q.2 (by decide))).trans c476
            have c497 : I486 a0 3 = v478 := (f489 _ _ (fun q => absurd q.2 (by decide))).trans c479
            have c498 : I486 a0 6 = v483 := (f489 _ _ (fun q => absurd q.2 (by decide))).trans c484
            refine tr_aload_n dX7_readEvent_86 rfl ?_
            refine tr_aload_n dX7_readEvent_87 rfl ?_
            refine q_getI dX7_readEvent_88 fl7_109 (kR7 hS487.1 ta0) c494 ?_
            refine q_iconst dX7_readEvent_91 (by decide) ?_
            intro v499 h500
            refine q_iaddE dX7_readEvent_92 (by intros; omega) ?_
            intro v501 h502
            refine q_putI dX7_readEvent_93 fl7_129 (kR7 hS487.1 ta0) (Or.inl rfl) hS487 ta0 (by show (0 : Int) ≤ v501.toInt ∧ v501.toInt ≤ (240 : Int); omega) rfl (by decide +kernel) ?_
            intro I503 hS504 e505 f506
            have c507 : I503 a23 3 = v33 := (f506 _ _ (fun q => absurd q.2 (by decide))).trans c490
            have c508 : I503 a43 0 = x1 := (f506 _ _ (fun q => absurd q.2 (by decide))).trans c491
            have c509 : I503 a43 1 = v55 := (f506 _ _ (fun q => absurd q.2 (by decide))).trans c492
            have c510 : I503 a0 15 = v467 := (f506 _ _ (fun q => absurd q.2 (by decide))).trans c493
            have c511 : I503 a0 7 = v469 := (f506 _ _ (fun q => absurd q.2 (by decide))).trans c494
            have c512 : I503 a0 2 = v472 := (f506 _ _ (fun q => absurd q.2 (by decide))).trans c495
            have c513 : I503 a0 4 = v475 := (f506 _ _ (fun q => absurd q.2 (by decide))).trans c496
            have c514 : I503 a0 3 = v478 := (f506 _ _ (fun q => absurd q.2 (by decide))).trans c497
            have c515 : I503 a0 6 = v483 := (f506 _ _ (fun q => absurd q.2 (by decide))).trans c498
            have c516 : I503 a0 8 = v469 := (f506 _ _ (fun q => absurd q.2 (by decide))).trans e488
            refine tr_goto 108 dX7_readEvent_96 (by decide) ?_
            refine tr_aload_n dX7_readEvent_108 rfl ?_
            refine tr_aload_n dX7_readEvent_109 rfl ?_
            refine q_getI dX7_readEvent_110 fl7_121 (kR7 hS504.1 ta0) c516 ?_
            refine q_putI dX7_readEvent_113 fl7_229 (kR3 hS504.1 ta43) (Or.inl rfl) hS504 ta43 (by show (0 : Int) ≤ v469.toInt ∧ v469.toInt ≤ (240 : Int); omega) rfl (by decide +kernel) ?_
            intro I517 hS518 e519 f520
            have c521 : I517 a23 3 = v33 := (f520 _ _ (fun q => absurd q.2 (by decide))).trans c507
            have c522 : I517 a43 0 = x1 := (f520 _ _ (fun q => absurd q.2 (by decide))).trans c508
            have c523 : I517 a43 1 = v55 := (f520 _ _ (fun q => absurd q.2 (by decide))).trans c509
            have c524 : I517 a0 15 = v467 := (f520 _ _ (fun q => absurd q.2 (by decide))).trans c510
            have c525 : I517 a0 7 = v469 := (f520 _ _ (fun q => absurd q.2 (by decide))).trans c511
            have c526 : I517 a0 2 = v472 := (f520 _ _ (fun q => by have z := ta0; rw [q.1, ta43] at z; exact absurd z (by decide))).trans c512
            have c527 : I517 a0 4 = v475 := (f520 _ _ (fun q => absurd q.2 (by decide))).trans c513
            have c528 : I517 a0 3 = v478 := (f520 _ _ (fun q => absurd q.2 (by decide))).trans c514
            have c529 : I517 a0 6 = v483 := (f520 _ _ (fun q => absurd q.2 (by decide))).trans c515
            have c530 : I517 a0 8 = v469 := (f520 _ _ (fun q => absurd q.2 (by decide))).trans c516
            have c531 : I517 a0 9 = v501 := (f520 _ _ (fun q => absurd q.2 (by decide))).trans e505
            refine tr_aload_n dX7_readEvent_116 rfl ?_
            refine tr_aload_n dX7_readEvent_117 rfl ?_
            refine q_getI dX7_readEvent_118 fl7_129 (kR7 hS518.1 ta0) c531 ?_
            refine q_putI dX7_readEvent_121 fl7_230 (kR3 hS518.1 ta43) (Or.inl rfl) hS518 ta43 (by show (0 : Int) ≤ v501.toInt ∧ v501.toInt ≤ (240 : Int); omega) rfl (by decide +kernel) ?_
            intro I532 hS533 e534 f535
            have c536 : I532 a23 3 = v33 := (f535 _ _ (fun q => by have z := ta23; rw [q.1, ta43] at z; exact absurd z (by decide))).trans c521
            have c537 : I532 a43 0 = x1 := (f535 _ _ (fun q => absurd q.2 (by decide))).trans c522
            have c538 : I532 a43 1 = v55 := (f535 _ _ (fun q => absurd q.2 (by decide))).trans c523
            have c539 : I532 a0 15 = v467 := (f535 _ _ (fun q => absurd q.2 (by decide))).trans c524
            have c540 : I532 a0 7 = v469 := (f535 _ _ (fun q => absurd q.2 (by decide))).trans c525
            have c541 : I532 a0 2 = v472 := (f535 _ _ (fun q => absurd q.2 (by decide))).trans c526
            have c542 : I532 a0 4 = v475 := (f535 _ _ (fun q => absurd q.2 (by decide))).trans c527
            have c543 : I532 a0 3 = v478 := (f535 _ _ (fun q => by have z := ta0; rw [q.1, ta43] at z; exact absurd z (by decide))).trans c528
            have c544 : I532 a0 6 = v483 := (f535 _ _ (fun q => absurd q.2 (by decide))).trans c529
            have c545 : I532 a0 8 = v469 := (f535 _ _ (fun q => absurd q.2 (by decide))).trans c530
            have c546 : I532 a0 9 = v501 := (f535 _ _ (fun q => absurd q.2 (by decide))).trans c531
            have c547 : I532 a43 2 = v469 := (f535 _ _ (fun q => absurd q.2 (by decide))).trans e519
            refine tr_aload_n dX7_readEvent_124 rfl ?_
            refine tr_getR dX7_readEvent_125 fl7_22 (kR7 hS533.1 ta0) d24 ?_
            refine tr_dup dX7_readEvent_128 rfl ?_
            refine q_getI dX7_readEvent_129 fl7_165 (kR2 hS533.1 ta23) c536 ?_
            refine q_iconst dX7_readEvent_132 (by decide) ?_
            intro v548 h549
            refine q_iaddE dX7_readEvent_133 (by intros; omega) ?_
            intro v550 h551
            refine q_putI dX7_readEvent_134 fl7_165 (kR2 hS533.1 ta23) (Or.inl rfl) hS533 ta23 (by show (0 : Int) ≤ v550.toInt ∧ v550.toInt ≤ (14 : Int); omega) rfl (by decide +kernel) ?_
            intro I552 hS553 e554 f555
            have c556 : I552 a43 0 = x1 := (f555 _ _ (fun q => absurd q.2 (by decide))).trans c537
            have c557 : I552 a43 1 = v55 := (f555 _ _ (fun q => absurd q.2 (by decide))).trans c538
            have c558 : I552 a0 15 = v467 := (f555 _ _ (fun q => absurd q.2 (by decide))).trans c539
            have c559 : I552 a0 7 = v469 := (f555 _ _ (fun q => absurd q.2 (by decide))).trans c540
            have c560 : I552 a0 2 = v472 := (f555 _ _ (fun q => absurd q.2 (by decide))).trans c541
            have c561 : I552 a0 4 = v475 := (f555 _ _ (fun q => absurd q.2 (by decide))).trans c542
            have c562 : I552 a0 3 = v478 := (f555 _ _ (fun q => by have z := ta0; rw [q.1, ta23] at z; exact absurd z (by decide))).trans c543
            have c563 : I552 a0 6 = v483 := (f555 _ _ (fun q => absurd q.2 (by decide))).trans c544
            have c564 : I552 a0 8 = v469 := (f555 _ _ (fun q => absurd q.2 (by decide))).trans c545
            have c565 : I552 a0 9 = v501 := (f555 _ _ (fun q => absurd q.2 (by decide))).trans c546
            have c566 : I552 a43 2 = v469 := (f555 _ _ (fun q => absurd q.2 (by decide))).trans c547
            have c567 : I552 a43 3 = v501 := (f555 _ _ (fun q => by have z := ta43; rw [q.1, ta23] at z; exact absurd z (by decide))).trans e534
            refine q_iconst dX7_readEvent_137 (by decide) ?_
            intro v568 h569
            have es570 : evS gB gQ gk gs = (tkN gB gs) := by simp only [evS, ↓reduceIte]; repeat' (first | split | omega)
            obtain ⟨v571, c572⟩ : ∃ v, I552 a0 16 = v := ⟨_, rfl⟩
            exact tr_zret hZ dX7_readEvent_138 rfl (ti_b01 (by omega) (by omega)) (by decide) (by decide) ⟨v568, rfl, rfl, rfl, rfl, rfl, hS553, hL446, (by omega), (Or.inl ⟨(by (try rw [es570]); first | done | omega), (by (try rw [es570]); (try rw [c558]); (try rw [c40]); first | done | omega), (by (try rw [es570]); first | done | omega | (simp only [evF, evP, ↓reduceIte]; repeat' (first | split | omega))), (fun q0 z0 => by obtain rfl := Option.some.inj ((d24).symm.trans z0); (try rw [es570]); (try rw [e554]); first | done | omega), (by (try rw [es570]); (try rw [c560]); first | done | omega), (by (try rw [es570]); (try rw [c561]); first | done | omega), (by (try rw [es570]); (try rw [c562]); first | done | omega), (by (try rw [es570]); (try rw [c482]); first | done | assumption), (by (try rw [es570]); (try rw [c563]); first | done | assumption), trivial⟩), trivial⟩
          · skip
            exfalso; omega
        · skip
          obtain ⟨v573, c574⟩ : ∃ v, I434 a0 15 = v := ⟨_, rfl⟩
          rw [c574] at p460
          obtain ⟨v575, c576⟩ : ∃ v, I434 a0 16 = v := ⟨_, rfl⟩
          rw [c576] at p461
          refine q_if_ne 78 dX7_readEvent_73 (by decide) (fun h577 => ?_) (fun h577 => ?_)
          · skip
            exfalso; omega
          · skip
            refine q_iconst dX7_readEvent_76 (by decide) ?_
            intro v578 h579
            obtain ⟨v580, c581⟩ : ∃ v, I434 a0 2 = v := ⟨_, rfl⟩
            have b582 := iv7_2 hS442.1 ta0 c581
            obtain ⟨v583, c584⟩ : ∃ v, I434 a0 4 = v := ⟨_, rfl⟩
            have b585 := iv7_4 hS442.1 ta0 c584
            obtain ⟨v586, c587⟩ : ∃ v, I434 a0 3 = v := ⟨_, rfl⟩
            have b588 := iv7_3 hS442.1 ta0 c587
            obtain ⟨y589, c590⟩ : ∃ v, L436 a0 5 = v := ⟨_, rfl⟩
            obtain ⟨v591, c592⟩ : ∃ v, I434 a0 6 = v := ⟨_, rfl⟩
            exact tr_zret hZ dX7_readEvent_77 rfl (ti_b01 (by omega) (by omega)) (by decide) (by decide) ⟨v578, rfl, rfl, rfl, rfl, rfl, hS442, hL446, (by omega), (Or.inr (⟨(by first | done | omega), (by first | done | omega | (simp only [evF, evP, ↓reduceIte]; repeat' (first | split | omega))), (by (try rw [c574]); first | done | omega | (simp only [evF, evP, ↓reduceIte]; repeat' (first | split | omega))), (by (try rw [c576]); first | done | omega | (simp only [evF, evP, ↓reduceIte]; repeat' (first | split | omega))), trivial⟩)), trivial⟩
        · skip
          obtain ⟨v593, c594⟩ : ∃ v, I434 a0 15 = v := ⟨_, rfl⟩
          rw [c594] at p465
          obtain ⟨v595, c596⟩ : ∃ v, I434 a0 16 = v := ⟨_, rfl⟩
          rw [c596] at p466
          refine q_if_ne 78 dX7_readEvent_73 (by decide) (fun h597 => ?_) (fun h597 => ?_)
          · skip
            exfalso; omega
          · skip
            refine q_iconst dX7_readEvent_76 (by decide) ?_
            intro v598 h599
            obtain ⟨v600, c601⟩ : ∃ v, I434 a0 2 = v := ⟨_, rfl⟩
            have b602 := iv7_2 hS442.1 ta0 c601
            obtain ⟨v603, c604⟩ : ∃ v, I434 a0 4 = v := ⟨_, rfl⟩
            have b605 := iv7_4 hS442.1 ta0 c604
            obtain ⟨v606, c607⟩ : ∃ v, I434 a0 3 = v := ⟨_, rfl⟩
            have b608 := iv7_3 hS442.1 ta0 c607
            obtain ⟨y609, c610⟩ : ∃ v, L436 a0 5 = v := ⟨_, rfl⟩
            obtain ⟨v611, c612⟩ : ∃ v, I434 a0 6 = v := ⟨_, rfl⟩
            exact tr_zret hZ dX7_readEvent_77 rfl (ti_b01 (by omega) (by omega)) (by decide) (by decide) ⟨v598, rfl, rfl, rfl, rfl, rfl, hS442, hL446, (by omega), (Or.inr (⟨(by first | done | omega), (by first | done | omega | (simp only [evF, evP, ↓reduceIte]; repeat' (first | split | omega))), (by (try rw [c594]); first | done | omega | (simp only [evF, evP, ↓reduceIte]; repeat' (first | split | omega))), (by (try rw [c596]); first | done | omega | (simp only [evF, evP, ↓reduceIte]; repeat' (first | split | omega))), trivial⟩)), trivial⟩
    · skip
      refine tr_aload_n dX7_readEvent_37 rfl ?_
      refine q_callVi hE (M' := mX7_takeHut) (as := []) dX7_readEvent_38 lk7_223 inX7_takeHut seX7_takeHut myX7_takeHut (by decide) ⟨by decide, by decide⟩ rfl (kR7 hS58.1 ta0) (Nat.le_of_ble_eq_true rfl) rfl rfl (by decide) (by decide) (fk_X7_takeHut hS58.1 (gB) (gs) (gQ) ta0 (TxA.kp hT hS58 ta0 rfl rfl rfl (by decide +kernel) (by decide +kernel)) (by (try rw [c61]); first | done | omega) (by (try rw [c62]); first | done | omega) (by (try rw [c63]); first | done | omega) (by (try rw [c14]); first | done | assumption) (by (try rw [c64]); first | done | assumption) (by (try rw [((hS58.cell ta0 (by decide +kernel)).trans c20)]); first | done | omega) (fun q0 z0 => by obtain rfl := Option.some.inj ((d24).symm.trans z0); (try rw [((hS58.cell ta23 (by decide +kernel)).trans c30)]); first | done | omega)) ?_
      rintro v618 cn' K' N' I613 R614 L615 ⟨rfl, rfl, rfl, rfl, g616, gl617, h619, dj620, -⟩
      have hS621 := hS58.tr g616 (by decide +kernel) (by decide +kernel)
      have c622 : I613 a23 3 = v33 := (g616.cell ta23 (by decide +kernel)).trans c65
      have c623 : I613 a43 0 = x1 := (g616.cell ta43 (by decide +kernel)).trans c67
      have c624 : I613 a43 1 = v55 := (g616.cell ta43 (by decide +kernel)).trans e59
      have hL625 := hL0.tr gl617 (by decide +kernel)
      rcases dj620 with ⟨p626, p627, p628, p629, p630, p631, p632, p633, p634, p635, p636, -⟩ | ⟨p637, p638, p639, p640, -⟩ | ⟨p641, p642, p643, p644, p645, -⟩
      · skip
        obtain ⟨v646, c647⟩ : ∃ v, I613 a0 15 = v := ⟨_, rfl⟩
        rw [c647] at p627
        rw [c66] at p627
        obtain ⟨v648, c649⟩ : ∃ v, I613 a0 7 = v := ⟨_, rfl⟩
        have b650 := iv7_7 hS621.1 ta0 c649
        rw [c649] at p631
        obtain ⟨v651, c652⟩ : ∃ v, I613 a0 2 = v := ⟨_, rfl⟩
        have b653 := iv7_2 hS621.1 ta0 c652
        rw [c652] at p632
        obtain ⟨v654, c655⟩ : ∃ v, I613 a0 4 = v := ⟨_, rfl⟩
        have b656 := iv7_4 hS621.1 ta0 c655
        rw [c655] at p633
        obtain ⟨v657, c658⟩ : ∃ v, I613 a0 3 = v := ⟨_, rfl⟩
        have b659 := iv7_3 hS621.1 ta0 c658
        rw [c658] at p634
        obtain ⟨y660, c661⟩ : ∃ v, L615 a0 5 = v := ⟨_, rfl⟩
        rw [c661] at p635
        obtain ⟨v662, c663⟩ : ∃ v, I613 a0 6 = v := ⟨_, rfl⟩
        rw [c663] at p636
        refine q_if_ne 46 dX7_readEvent_41 (by decide) (fun h664 => ?_) (fun h664 => ?_)
        · skip
          refine tr_aload_n dX7_readEvent_46 rfl ?_
          refine tr_aload_n dX7_readEvent_47 rfl ?_
          refine q_getI dX7_readEvent_48 fl7_109 (kR7 hS621.1 ta0) c649 ?_
          refine q_putI dX7_readEvent_51 fl7_220 (kR3 hS621.1 ta43) (Or.inl rfl) hS621 ta43 (iokF rfl) rfl (by decide +kernel) ?_
          intro I665 hS666 e667 f668
          have c669 : I665 a23 3 = v33 := (f668 _ _ (fun q => absurd q.2 (by decide))).trans c622
          have c670 : I665 a43 0 = x1 := (f668 _ _ (fun q => absurd q.2 (by decide))).trans c623
          have c671 : I665 a0 15 = v646 := (f668 _ _ (fun q => absurd q.2 (by decide))).trans c647
          have c672 : I665 a0 7 = v648 := (f668 _ _ (fun q => absurd q.2 (by decide))).trans c649
          have c673 : I665 a0 2 = v651 := (f668 _ _ (fun q => absurd q.2 (by decide))).trans c652
          have c674 : I665 a0 4 = v654 := (f668 _ _ (fun q => absurd q.2 (by decide))).trans c655
          have c675 : I665 a0 3 = v657 := (f668 _ _ (fun q => absurd q.2 (by decide))).trans c658
          have c676 : I665 a0 6 = v662 := (f668 _ _ (fun q => absurd q.2 (by decide))).trans c663
          refine tr_iload_n dX7_readEvent_54 rfl ?_
          refine q_iconst dX7_readEvent_55 (by decide) ?_
          intro v677 h678
          refine q_icmp_ne 99 dX7_readEvent_56 (by decide) (fun h679 => ?_) (fun h679 => ?_)
          · skip
            refine tr_aload_n dX7_readEvent_99 rfl ?_
            refine q_callVi hE (M' := mX7_takeSpan) (as := []) dX7_readEvent_100 lk7_226 inX7_takeSpan seX7_takeSpan myX7_takeSpan (by decide) ⟨by decide, by decide⟩ rfl (kR7 hS666.1 ta0) (Nat.le_of_ble_eq_true rfl) rfl rfl (by decide) (by decide) (fk_X7_takeSpan hS666.1 (gB) ((tkN gB gs)) (gQ) ta0 (TxA.kp hT hS666 ta0 rfl rfl rfl (by decide +kernel) (by decide +kernel)) (by (try rw [c673]); first | done | omega) (by (try rw [c674]); first | done | omega) (by (try rw [c675]); first | done | omega) (by (try rw [c661]); first | done | assumption) (by (try rw [c676]); first | done | assumption) (by (try rw [((hS666.cell ta0 (by decide +kernel)).trans c20)]); first | done | omega) (fun q0 z0 => by obtain rfl := Option.some.inj ((d24).symm.trans z0); (try rw [((hS666.cell ta23 (by decide +kernel)).trans c26)]); first | done | omega)) ?_
            rintro v685 cn' K' N' I680 R681 L682 ⟨rfl, rfl, rfl, rfl, g683, gl684, h686, dj687, -⟩
            have hS688 := hS666.tr g683 (by decide +kernel) (by decide +kernel)
            have c689 : I680 a23 3 = v33 := (g683.cell ta23 (by decide +kernel)).trans c669
            have c690 : I680 a43 0 = x1 := (g683.cell ta43 (by decide +kernel)).trans c670
            have c691 : I680 a43 1 = v648 := (g683.cell ta43 (by decide +kernel)).trans e667
            have hL692 := hL625.tr gl684 (by decide +kernel)
            rcases dj687 with ⟨p693, p694, p695, p696, p697, p698, p699, p700, p701, p702, -⟩ | ⟨p703, p704, p705, p706, -⟩
            · skip
              obtain ⟨v707, c708⟩ : ∃ v, I680 a0 15 = v := ⟨_, rfl⟩
              rw [c708] at p694
              rw [c671] at p694
              obtain ⟨v709, c710⟩ : ∃ v, I680 a0 8 = v := ⟨_, rfl⟩
              have b711 := iv7_8 hS688.1 ta0 c710
              rw [c710] at p696
              obtain ⟨v712, c713⟩ : ∃ v, I680 a0 9 = v := ⟨_, rfl⟩
              have b714 := iv7_9 hS688.1 ta0 c713
              rw [c713] at p697
              obtain ⟨v715, c716⟩ : ∃ v, I680 a0 2 = v := ⟨_, rfl⟩
              have b717 := iv7_2 hS688.1 ta0 c716
              rw [c716] at p698
              obtain ⟨v718, c719⟩ : ∃ v, I680 a0 4 = v := ⟨_, rfl⟩
              have b720 := iv7_4 hS688.1 ta0 c719
              rw [c719] at p699
              obtain ⟨v721, c722⟩ : ∃ v, I680 a0 3 = v := ⟨_, rfl⟩
              have b723 := iv7_3 hS688.1 ta0 c722
              rw [c722] at p700
              obtain ⟨y724, c725⟩ : ∃ v, L682 a0 5 = v := ⟨_, rfl⟩
              rw [c725] at p701
              obtain ⟨v726, c727⟩ : ∃ v, I680 a0 6 = v := ⟨_, rfl⟩
              rw [c727] at p702
              refine q_if_ne 108 dX7_readEvent_103 (by decide) (fun h728 => ?_) (fun h728 => ?_)
              · skip
                refine tr_aload_n dX7_readEvent_108 rfl ?_
                refine tr_aload_n dX7_readEvent_109 rfl ?_
                refine q_getI dX7_readEvent_110 fl7_121 (kR7 hS688.1 ta0) c710 ?_
                refine q_putI dX7_readEvent_113 fl7_229 (kR3 hS688.1 ta43) (Or.inl rfl) hS688 ta43 (by show (0 : Int) ≤ v709.toInt ∧ v709.toInt ≤ (240 : Int); omega) rfl (by decide +kernel) ?_
                intro I729 hS730 e731 f732
                have c733 : I729 a23 3 = v33 := (f732 _ _ (fun q => absurd q.2 (by decide))).trans c689
                have c734 : I729 a43 0 = x1 := (f732 _ _ (fun q => absurd q.2 (by decide))).trans c690
                have c735 : I729 a43 1 = v648 := (f732 _ _ (fun q => absurd q.2 (by decide))).trans c691
                have c736 : I729 a0 15 = v707 := (f732 _ _ (fun q => absurd q.2 (by decide))).trans c708
                have c737 : I729 a0 8 = v709 := (f732 _ _ (fun q => absurd q.2 (by decide))).trans c710
                have c738 : I729 a0 9 = v712 := (f732 _ _ (fun q => absurd q.2 (by decide))).trans c713
                have c739 : I729 a0 2 = v715 := (f732 _ _ (fun q => by have z := ta0; rw [q.1, ta43] at z; exact absurd z (by decide))).trans c716
                have c740 : I729 a0 4 = v718 := (f732 _ _ (fun q => absurd q.2 (by decide))).trans c719
                have c741 : I729 a0 3 = v721 := (f732 _ _ (fun q => absurd q.2 (by decide))).trans c722
                have c742 : I729 a0 6 = v726 := (f732 _ _ (fun q => absurd q.2 (by decide))).trans c727
                refine tr_aload_n dX7_readEvent_116 rfl ?_
                refine tr_aload_n dX7_readEvent_117 rfl ?_
                refine q_getI dX7_readEvent_118 fl7_129 (kR7 hS730.1 ta0) c738 ?_
                refine q_putI dX7_readEvent_121 fl7_230 (kR3 hS730.1 ta43) (Or.inl rfl) hS730 ta43 (by show (0 : Int) ≤ v712.toInt ∧ v712.toInt ≤ (240 : Int); omega) rfl (by decide +kernel) ?_
                intro I743 hS744 e745 f746
                have c747 : I743 a23 3 = v33 := (f746 _ _ (fun q => by have z := ta23; rw [q.1, ta43] at z; exact absurd z (by decide))).trans c733
                have c748 : I743 a43 0 = x1 := (f746 _ _ (fun q => absurd q.2 (by decide))).trans c734
                have c749 : I743 a43 1 = v648 := (f746 _ _ (fun q => absurd q.2 (by decide))).trans c735
                have c750 : I743 a0 15 = v707 := (f746 _ _ (fun q => absurd q.2 (by decide))).trans c736
                have c751 : I743 a0 8 = v709 := (f746 _ _ (fun q => absurd q.2 (by decide))).trans c737
                have c752 : I743 a0 9 = v712 := (f746 _ _ (fun q => absurd q.2 (by decide))).trans c738
                have c753 : I743 a0 2 = v715 := (f746 _ _ (fun q => absurd q.2 (by decide))).trans c739
                have c754 : I743 a0 4 = v718 := (f746 _ _ (fun q => absurd q.2 (by decide))).trans c740
                have c755 : I743 a0 3 = v721 := (f746 _ _ (fun q => by have z := ta0; rw [q.1, ta43] at z; exact absurd z (by decide))).trans c741
                have c756 : I743 a0 6 = v726 := (f746 _ _ (fun q => absurd q.2 (by decide))).trans c742
                have c757 : I743 a43 2 = v709 := (f746 _ _ (fun q => absurd q.2 (by decide))).trans e731
                refine tr_aload_n dX7_readEvent_124 rfl ?_
                refine tr_getR dX7_readEvent_125 fl7_22 (kR7 hS744.1 ta0) d24 ?_
                refine tr_dup dX7_readEvent_128 rfl ?_
                refine q_getI dX7_readEvent_129 fl7_165 (kR2 hS744.1 ta23) c747 ?_
                refine q_iconst dX7_readEvent_132 (by decide) ?_
                intro v758 h759
                refine q_iaddE dX7_readEvent_133 (by intros; omega) ?_
                intro v760 h761
                refine q_putI dX7_readEvent_134 fl7_165 (kR2 hS744.1 ta23) (Or.inl rfl) hS744 ta23 (by show (0 : Int) ≤ v760.toInt ∧ v760.toInt ≤ (14 : Int); omega) rfl (by decide +kernel) ?_
                intro I762 hS763 e764 f765
                have c766 : I762 a43 0 = x1 := (f765 _ _ (fun q => absurd q.2 (by decide))).trans c748
                have c767 : I762 a43 1 = v648 := (f765 _ _ (fun q => absurd q.2 (by decide))).trans c749
                have c768 : I762 a0 15 = v707 := (f765 _ _ (fun q => absurd q.2 (by decide))).trans c750
                have c769 : I762 a0 8 = v709 := (f765 _ _ (fun q => absurd q.2 (by decide))).trans c751
                have c770 : I762 a0 9 = v712 := (f765 _ _ (fun q => absurd q.2 (by decide))).trans c752
                have c771 : I762 a0 2 = v715 := (f765 _ _ (fun q => absurd q.2 (by decide))).trans c753
                have c772 : I762 a0 4 = v718 := (f765 _ _ (fun q => absurd q.2 (by decide))).trans c754
                have c773 : I762 a0 3 = v721 := (f765 _ _ (fun q => by have z := ta0; rw [q.1, ta23] at z; exact absurd z (by decide))).trans c755
                have c774 : I762 a0 6 = v726 := (f765 _ _ (fun q => absurd q.2 (by decide))).trans c756
                have c775 : I762 a43 2 = v709 := (f765 _ _ (fun q => absurd q.2 (by decide))).trans c757
                have c776 : I762 a43 3 = v712 := (f765 _ _ (fun q => by have z := ta43; rw [q.1, ta23] at z; exact absurd z (by decide))).trans e745
                refine q_iconst dX7_readEvent_137 (by decide) ?_
                intro v777 h778
                have es779 : evS gB gQ gk gs = (tkN gB (tkN gB (tkN gB (tkN gB gs)))) := by simp only [evS, ↓reduceIte]; repeat' (first | split | omega)
                obtain ⟨v780, c781⟩ : ∃ v, I762 a0 16 = v := ⟨_, rfl⟩
                exact tr_zret hZ dX7_readEvent_138 rfl (ti_b01 (by omega) (by omega)) (by decide) (by decide) ⟨v777, rfl, rfl, rfl, rfl, rfl, hS763, hL692, (by omega), (Or.inl ⟨(by (try rw [es779]); first | done | omega), (by (try rw [es779]); (try rw [c768]); (try rw [c40]); first | done | omega), (by (try rw [es779]); first | done | omega | (simp only [evF, evP, ↓reduceIte]; repeat' (first | split | omega))), (fun q0 z0 => by obtain rfl := Option.some.inj ((d24).symm.trans z0); (try rw [es779]); (try rw [e764]); first | done | omega), (by (try rw [es779]); (try rw [c771]); first | done | omega), (by (try rw [es779]); (try rw [c772]); first | done | omega), (by (try rw [es779]); (try rw [c773]); first | done | omega), (by (try rw [es779]); (try rw [c725]); first | done | assumption), (by (try rw [es779]); (try rw [c774]); first | done | assumption), trivial⟩), trivial⟩
              · skip
                exfalso; omega
            · skip
              obtain ⟨v782, c783⟩ : ∃ v, I680 a0 15 = v := ⟨_, rfl⟩
              rw [c783] at p705
              obtain ⟨v784, c785⟩ : ∃ v, I680 a0 16 = v := ⟨_, rfl⟩
              rw [c785] at p706
              refine q_if_ne 108 dX7_readEvent_103 (by decide) (fun h786 => ?_) (fun h786 => ?_)
              · skip
                exfalso; omega
              · skip
                refine q_iconst dX7_readEvent_106 (by decide) ?_
                intro v787 h788
                obtain ⟨v789, c790⟩ : ∃ v, I680 a0 2 = v := ⟨_, rfl⟩
                have b791 := iv7_2 hS688.1 ta0 c790
                obtain ⟨v792, c793⟩ : ∃ v, I680 a0 4 = v := ⟨_, rfl⟩
                have b794 := iv7_4 hS688.1 ta0 c793
                obtain ⟨v795, c796⟩ : ∃ v, I680 a0 3 = v := ⟨_, rfl⟩
                have b797 := iv7_3 hS688.1 ta0 c796
                obtain ⟨y798, c799⟩ : ∃ v, L682 a0 5 = v := ⟨_, rfl⟩
                obtain ⟨v800, c801⟩ : ∃ v, I680 a0 6 = v := ⟨_, rfl⟩
                exact tr_zret hZ dX7_readEvent_107 rfl (ti_b01 (by omega) (by omega)) (by decide) (by decide) ⟨v787, rfl, rfl, rfl, rfl, rfl, hS688, hL692, (by omega), (Or.inr (⟨(by first | done | omega), (by first | done | omega | (simp only [evF, evP, ↓reduceIte]; repeat' (first | split | omega))), (by (try rw [c783]); first | done | omega | (simp only [evF, evP, ↓reduceIte]; repeat' (first | split | omega))), (by (try rw [c785]); first | done | omega | (simp only [evF, evP, ↓reduceIte]; repeat' (first | split | omega))), trivial⟩)), trivial⟩
          · skip
            exfalso; omega
        · skip
          exfalso; omega
      · skip
        obtain ⟨v802, c803⟩ : ∃ v, I613 a0 15 = v := ⟨_, rfl⟩
        rw [c803] at p639
        obtain ⟨v804, c805⟩ : ∃ v, I613 a0 16 = v := ⟨_, rfl⟩
        rw [c805] at p640
        refine q_if_ne 46 dX7_readEvent_41 (by decide) (fun h806 => ?_) (fun h806 => ?_)
        · skip
          exfalso; omega
        · skip
          refine q_iconst dX7_readEvent_44 (by decide) ?_
          intro v807 h808
          obtain ⟨v809, c810⟩ : ∃ v, I613 a0 2 = v := ⟨_, rfl⟩
          have b811 := iv7_2 hS621.1 ta0 c810
          obtain ⟨v812, c813⟩ : ∃ v, I613 a0 4 = v := ⟨_, rfl⟩
          have b814 := iv7_4 hS621.1 ta0 c813
          obtain ⟨v815, c816⟩ : ∃ v, I613 a0 3 = v := ⟨_, rfl⟩
          have b817 := iv7_3 hS621.1 ta0 c816
          obtain ⟨y818, c819⟩ : ∃ v, L615 a0 5 = v := ⟨_, rfl⟩
          obtain ⟨v820, c821⟩ : ∃ v, I613 a0 6 = v := ⟨_, rfl⟩
          exact tr_zret hZ dX7_readEvent_45 rfl (ti_b01 (by omega) (by omega)) (by decide) (by decide) ⟨v807, rfl, rfl, rfl, rfl, rfl, hS621, hL625, (by omega), (Or.inr (⟨(by first | done | omega), (by first | done | omega | (simp only [evF, evP, ↓reduceIte]; repeat' (first | split | omega))), (by (try rw [c803]); first | done | omega | (simp only [evF, evP, ↓reduceIte]; repeat' (first | split | omega))), (by (try rw [c805]); first | done | omega | (simp only [evF, evP, ↓reduceIte]; repeat' (first | split | omega))), trivial⟩)), trivial⟩
      · skip
        obtain ⟨v822, c823⟩ : ∃ v, I613 a0 15 = v := ⟨_, rfl⟩
        rw [c823] at p644
        obtain ⟨v824, c825⟩ : ∃ v, I613 a0 16 = v := ⟨_, rfl⟩
        rw [c825] at p645
        refine q_if_ne 46 dX7_readEvent_41 (by decide) (fun h826 => ?_) (fun h826 => ?_)
        · skip
          exfalso; omega
        · skip
          refine q_iconst dX7_readEvent_44 (by decide) ?_
          intro v827 h828
          obtain ⟨v829, c830⟩ : ∃ v, I613 a0 2 = v := ⟨_, rfl⟩
          have b831 := iv7_2 hS621.1 ta0 c830
          obtain ⟨v832, c833⟩ : ∃ v, I613 a0 4 = v := ⟨_, rfl⟩
          have b834 := iv7_4 hS621.1 ta0 c833
          obtain ⟨v835, c836⟩ : ∃ v, I613 a0 3 = v := ⟨_, rfl⟩
          have b837 := iv7_3 hS621.1 ta0 c836
          obtain ⟨y838, c839⟩ : ∃ v, L615 a0 5 = v := ⟨_, rfl⟩
          obtain ⟨v840, c841⟩ : ∃ v, I613 a0 6 = v := ⟨_, rfl⟩
          exact tr_zret hZ dX7_readEvent_45 rfl (ti_b01 (by omega) (by omega)) (by decide) (by decide) ⟨v827, rfl, rfl, rfl, rfl, rfl, hS621, hL625, (by omega), (Or.inr (⟨(by first | done | omega), (by first | done | omega | (simp only [evF, evP, ↓reduceIte]; repeat' (first | split | omega))), (by (try rw [c823]); first | done | omega | (simp only [evF, evP, ↓reduceIte]; repeat' (first | split | omega))), (by (try rw [c825]); first | done | omega | (simp only [evF, evP, ↓reduceIte]; repeat' (first | split | omega))), trivial⟩)), trivial⟩
