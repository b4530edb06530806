def wik_X7_readHuts : List Nat := [261, 450, 451, 452, 454, 463, 464]
def wrk_X7_readHuts : List Nat := []
def wlk_X7_readHuts : List Nat := [453]
set_option maxHeartbeats 4000000 in
theorem fk_X7_readHuts {l : Launch} {T : Nat → Nat} {cn : Nat} {K N : Nat → Nat} {I0 : cz_I} {R0 : cz_R} {L0 : cz_L} {d : Int} (hW0 : Wf T cn K N I0 R0 d) (gB : cz_B) (gs : Int) (gQ : Nat → Int) {a0 : Nat} (ta0 : T a0 = 7) {a1 : Nat} (ta1 : T a1 = 4) (hT : ∀ t, R0 a0 0 = some t → Tx I0 t gB) (pre0 : (I0 a0 2).toInt = (tkN gB gs)) (pre1 : (I0 a0 4).toInt = (tkS gB gs)) (pre2 : (I0 a0 3).toInt = (tkK gB gs)) (pre3 : (AtW ((tkK gB gs)) ((L0 a0 5).toInt) ((tkW gB gs)))) (pre4 : (AtV ((tkK gB gs)) ((I0 a0 6).toInt) ((tkV gB gs)))) (pre5 : (I0 a0 1).toInt = (gB.2)) (pre6 : ∀ b1, R0 a0 10 = some b1 → (I0 b1 1).toInt = (gQ 1)) : ConE l mX7_readHuts [.ref a0, .ref a1] cn K N I0 R0 L0 (ca_i (fun v cn' K' N' I' R' L' => cn = cn' ∧ K = K' ∧ N = N' ∧ R0 = R' ∧ St T cn K N d wik_X7_readHuts wrk_X7_readHuts I0 R0 I' R0 ∧ LgS T wlk_X7_readHuts L0 L' ∧ (0 ≤ v.toInt ∧ v.toInt ≤ 1) ∧ (((v.toInt = 1) ∧ ((I' a0 15).toInt = (I0 a0 15).toInt) ∧ ((huF gB gQ 901 0 gs) = 0) ∧ ((I' a0 2).toInt = (tkN gB (huS gB gQ 901 0 gs))) ∧ ((I' a0 4).toInt = (tkS gB (huS gB gQ 901 0 gs))) ∧ ((I' a0 3).toInt = (tkK gB (huS gB gQ 901 0 gs))) ∧ ((AtW ((tkK gB (huS gB gQ 901 0 gs))) ((L' a0 5).toInt) ((tkW gB (huS gB gQ 901 0 gs))))) ∧ ((AtV ((tkK gB (huS gB gQ 901 0 gs))) ((I' a0 6).toInt) ((tkV gB (huS gB gQ 901 0 gs))))) ∧ True) ∨ ((v.toInt = 0) ∧ ((huF gB gQ 901 0 gs) ≠ 0) ∧ ((I' a0 15).toInt = (huF gB gQ 901 0 gs)) ∧ ((I' a0 16).toInt = (huP gB gQ 901 0 gs)) ∧ True)) ∧ True)) := by
  refine ConE.of (by decide +kernel) rfl (Nat.le_of_ble_eq_true rfl) rfl (fun X hX hZ hE => ?_)
  subst hX
  have hS0 : St T cn K N d wik_X7_readHuts wrk_X7_readHuts I0 R0 I0 R0 := St.rf0 hW0
  have hL0 : LgS T wlk_X7_readHuts L0 L0 := LgS.rf0
  obtain ⟨v1, c2⟩ : ∃ v, I0 a0 2 = v := ⟨_, rfl⟩
  have b3 := iv7_2 hS0.1 ta0 c2
  have p4 := pre0
  rw [c2] at p4
  obtain ⟨v5, c6⟩ : ∃ v, I0 a0 4 = v := ⟨_, rfl⟩
  have b7 := iv7_4 hS0.1 ta0 c6
  have p8 := pre1
  rw [c6] at p8
  obtain ⟨v9, c10⟩ : ∃ v, I0 a0 3 = v := ⟨_, rfl⟩
  have b11 := iv7_3 hS0.1 ta0 c10
  have p12 := pre2
  rw [c10] at p12
  obtain ⟨y13, c14⟩ : ∃ v, L0 a0 5 = v := ⟨_, rfl⟩
  have p15 := pre3
  rw [c14] at p15
  obtain ⟨v16, c17⟩ : ∃ v, I0 a0 6 = v := ⟨_, rfl⟩
  have p18 := pre4
  rw [c17] at p18
  obtain ⟨v19, c20⟩ : ∃ v, I0 a0 1 = v := ⟨_, rfl⟩
  have b21 := iv7_1 hW0 ta0 c20
  have p22 := pre5
  rw [c20] at p22
  obtain ⟨a23, d24, ta23⟩ := rf7_10 hW0 ta0
  obtain ⟨v25, c26⟩ : ∃ v, I0 a23 1 = v := ⟨_, rfl⟩
  have b27 := iv2_1 hW0 ta23 c26
  have p28 := pre6 _ d24
  rw [c26] at p28
  obtain ⟨v29, c30⟩ : ∃ v, I0 a0 15 = v := ⟨_, rfl⟩
  refine tr_aload_n dX7_readHuts_0 rfl ?_
  refine q_iconst dX7_readHuts_1 (by decide) ?_
  intro v31 h32
  refine q_putI dX7_readHuts_2 fl7_274 (kR4 hS0.1 ta1) (Or.inl rfl) hS0 ta1 (iokF rfl) rfl (by decide +kernel) ?_
  intro I33 hS34 e35 f36
  have c37 : I33 a0 2 = v1 := (f36 _ _ (fun q => absurd q.2 (by decide))).trans c2
  have c38 : I33 a0 4 = v5 := (f36 _ _ (fun q => absurd q.2 (by decide))).trans c6
  have c39 : I33 a0 3 = v9 := (f36 _ _ (fun q => absurd q.2 (by decide))).trans c10
  have c40 : I33 a0 6 = v16 := (f36 _ _ (fun q => absurd q.2 (by decide))).trans c17
  have c41 : I33 a0 15 = v29 := (f36 _ _ (fun q => absurd q.2 (by decide))).trans c30
  refine q_iconst dX7_readHuts_5 (by decide) ?_
  intro v42 h43
  refine tr_istore_n dX7_readHuts_6 (by decide) (by decide) ?_
  have lp84 : ∀ (fu : Nat) (ls : Nat → Option Value) (v44 : Int32) (I48 : cz_I) (L49 : cz_L) (gs50 : Int) (gr51 : Nat) (gh52 : Int) (v55 : Int32) (v57 : Int32) (v59 : Int32) (v61 : Int32) (v63 : Int32) (y65 : Int64) (v67 : Int32), ls 0 = some (.ref a0) → ls 1 = some (.ref a1) → ls 2 = some (.int v44) → St T cn K N d wik_X7_readHuts wrk_X7_readHuts I0 R0 I48 R0 → LgS T wlk_X7_readHuts L0 L49 → I48 a1 5 = v55 → I48 a0 15 = v57 → I48 a0 2 = v59 → I48 a0 4 = v61 → I48 a0 3 = v63 → L49 a0 5 = y65 → I48 a0 6 = v67 → (huF gB gQ gr51 gh52 gs50) = (huF gB gQ 901 0 gs) → (huP gB gQ gr51 gh52 gs50) = (huP gB gQ 901 0 gs) → (huS gB gQ gr51 gh52 gs50) = (huS gB gQ 901 0 gs) → v55.toInt = (gh52) → (gh52) ≥ 0 → (gh52) ≤ 15 → 0 ≤ v44.toInt → v44.toInt ≤ 901 → ((gr51 : Int)) = -v44.toInt + 901 → v57.toInt = v29.toInt → v59.toInt = (tkN gB gs50) → v61.toInt = (tkS gB gs50) → v63.toInt = (tkK gB gs50) → (AtW ((tkK gB gs50)) (y65.toInt) ((tkW gB gs50))) → (AtV ((tkK gB gs50)) (v67.toInt) ((tkV gB gs50))) → (-v44.toInt + 901).toNat < fu → Tr X mX7_readHuts 7 ls [] cn K N I48 R0 L49 0 0 := by
    intro fu
    induction fu with
    | zero => intros; rename_i hz; exact absurd hz (Nat.not_lt_zero _)
    | succ fu ih84 =>
      intro ls v44 I48 L49 gs50 gr51 gh52 v55 v57 v59 v61 v63 y65 v67 hl45 hl46 hl47 hS53 hL54 c56 c58 c60 c62 c64 c66 c68 g69 g70 g71 g72 g73 g74 g75 g76 g77 g78 g79 g80 g81 g82 g83 hm84
      have b86 := iv7_2 hS53.1 ta0 c60
      have b87 := iv7_4 hS53.1 ta0 c62
      have b88 := iv7_3 hS53.1 ta0 c64
      rcases Nat.eq_zero_or_pos gr51 with hz89 | hz89
      · skip
        subst hz89
        refine tr_iload_n dX7_readHuts_7 hl47 ?_
        refine q_sipush dX7_readHuts_8 (by decide +kernel) ?_
        intro v91 h92
        refine q_icmp_gt 93 dX7_readHuts_11 (by decide) (fun h93 => ?_) (fun h93 => ?_)
        · skip
          refine tr_aload_n dX7_readHuts_93 hl45 ?_
          refine q_iconst dX7_readHuts_94 (by decide) ?_
          intro v94 h95
          refine q_callVi hE (M' := mX7_fail) (as := [_]) dX7_readHuts_95 lk7_64 inX7_fail seX7_fail myX7_fail (by decide) ⟨by decide, by decide⟩ rfl (kR7 hS53.1 ta0) (Nat.le_of_ble_eq_true rfl) rfl rfl (by decide) (by decide) (fk_X7_fail hS53.1  ta0 (by omega)) ?_
          rintro v101 cn' K' N' I96 R97 L98 ⟨rfl, rfl, rfl, rfl, rfl, g99, h102, p103, p104, p105, -⟩
          have hS106 := hS53.tr g99 (by decide +kernel) (by decide +kernel)
          have c107 : I96 a1 5 = v55 := (g99.cell ta1 (by decide +kernel)).trans c56
          have c108 : I96 a0 2 = v59 := (g99.cell ta0 (by decide +kernel)).trans c60
          have c109 : I96 a0 4 = v61 := (g99.cell ta0 (by decide +kernel)).trans c62
          have c110 : I96 a0 3 = v63 := (g99.cell ta0 (by decide +kernel)).trans c64
          have c111 : I96 a0 6 = v67 := (g99.cell ta0 (by decide +kernel)).trans c68
          obtain ⟨v112, c113⟩ : ∃ v, I96 a0 15 = v := ⟨_, rfl⟩
          rw [c113] at p104
          obtain ⟨v114, c115⟩ : ∃ v, I96 a0 16 = v := ⟨_, rfl⟩
          rw [c115] at p105
          rw [c62] at p105
          exact tr_zret hZ dX7_readHuts_98 rfl (ti_b01 (by omega) (by omega)) (by decide) (by decide) ⟨v101, rfl, rfl, rfl, rfl, rfl, hS106, hL54, (by omega), (Or.inr (⟨(by first | done | omega), (by rw [← g69]; simp only [huF, ↓reduceIte]; repeat' (first | split | omega)), (by (try rw [c113]); rw [← g69]; simp only [huF, ↓reduceIte]; repeat' (first | split | omega)), (by (try rw [c115]); rw [← g70]; simp only [huP, ↓reduceIte]; repeat' (first | split | omega)), trivial⟩)), trivial⟩
        · skip
          exfalso; omega
      · skip
        obtain ⟨gk90, rfl⟩ : ∃ k, gr51 = k + 1 := ⟨gr51 - 1, by omega⟩
        refine tr_iload_n dX7_readHuts_7 hl47 ?_
        refine q_sipush dX7_readHuts_8 (by decide +kernel) ?_
        intro v116 h117
        refine q_icmp_gt 93 dX7_readHuts_11 (by decide) (fun h118 => ?_) (fun h118 => ?_)
        · skip
          exfalso; omega
        · skip
          refine tr_aload_n dX7_readHuts_14 hl45 ?_
          refine q_iconst dX7_readHuts_15 (by decide) ?_
          intro v119 h120
          refine tr_aload_n dX7_readHuts_16 hl45 ?_
          refine tr_getR dX7_readHuts_17 fl7_22 (kR7 hS53.1 ta0) d24 ?_
          refine q_getI dX7_readHuts_20 fl7_112 (kR2 hS53.1 ta23) ((hS53.cell ta23 (by decide +kernel)).trans c26) ?_
          refine q_iconst dX7_readHuts_23 (by decide) ?_
          intro v121 h122
          refine q_isubE dX7_readHuts_24 (by intros; omega) ?_
          intro v123 h124
          refine q_callVi hE (M' := mX7_seesWhole) (as := [_, _]) dX7_readHuts_25 lk7_105 inX7_seesWhole seX7_seesWhole myX7_seesWhole (by decide) ⟨by decide, by decide⟩ rfl (kR7 hS53.1 ta0) (Nat.le_of_ble_eq_true rfl) rfl rfl (by decide) (by decide) (fk_X7_seesWhole hS53.1 (gB) (gs50) ta0 (by (try rw [c60]); first | done | omega) (by (try rw [c62]); first | done | omega) (by (try rw [c64]); first | done | omega) (by (try rw [c66]); first | done | assumption) (by (try rw [c68]); first | done | assumption)) ?_
          rintro v130 cn' K' N' I125 R126 L127 ⟨rfl, rfl, rfl, rfl, rfl, g128, h131, dj132, -⟩
          have hS133 := hS53.tr g128 (by decide +kernel) (by decide +kernel)
          have c134 : I125 a1 5 = v55 := (g128.cell ta1 (by decide +kernel)).trans c56
          have c135 : I125 a0 2 = v59 := (g128.cell ta0 (by decide +kernel)).trans c60
          have c136 : I125 a0 4 = v61 := (g128.cell ta0 (by decide +kernel)).trans c62
          have c137 : I125 a0 3 = v63 := (g128.cell ta0 (by decide +kernel)).trans c64
          have c138 : I125 a0 6 = v67 := (g128.cell ta0 (by decide +kernel)).trans c68
          rcases dj132 with ⟨p139, p140, p141, p142, p143, p144, -⟩ | ⟨p145, p146, p147, p148, -⟩ | ⟨p149, p150, p151, p152, p153, -⟩
          · skip
            obtain ⟨v154, c155⟩ : ∃ v, I125 a0 15 = v := ⟨_, rfl⟩
            rw [c155] at p140
            rw [c58] at p140
            rw [c68] at p144
            refine q_if_ne 33 dX7_readHuts_28 (by decide) (fun h156 => ?_) (fun h156 => ?_)
            · skip
              refine tr_aload_n dX7_readHuts_33 hl46 ?_
              refine q_getI dX7_readHuts_34 fl7_274 (kR4 hS133.1 ta1) c134 ?_
              refine tr_aload_n dX7_readHuts_37 hl45 ?_
              have p157 := g83 (by omega)
              refine q_getI dX7_readHuts_38 fl7_86 (kR7 hS133.1 ta0) c138 ?_
              refine q_callSNi hE (M' := mX10_bit) (as := [_, _]) dX7_readHuts_41 lk7_275 inX10_bit myX10_bit ⟨by decide, by decide⟩ rfl (Nat.le_of_ble_eq_true rfl) rfl rfl (by decide) (by decide) (f_X10_bit   (by omega) (by omega)) ?_
              rintro v163 cn' K' N' I158 R159 L160 ⟨rfl, rfl, rfl, rfl, rfl, rfl, p164, -⟩
              rw [show v55.toInt = gh52 by omega, show v67.toInt = tkV gB gs50 by omega] at p164
              refine q_iconst dX7_readHuts_44 (by decide) ?_
              intro v165 h166
              refine q_icmp_ne 54 dX7_readHuts_45 (by decide) (fun h167 => ?_) (fun h167 => ?_)
              · skip
                refine tr_aload_n dX7_readHuts_54 hl46 ?_
                refine tr_dup dX7_readHuts_55 rfl ?_
                refine q_getI dX7_readHuts_56 fl7_274 (kR4 hS133.1 ta1) c134 ?_
                refine q_iconst dX7_readHuts_59 (by decide) ?_
                intro v168 h169
                refine tr_aload_n dX7_readHuts_60 hl45 ?_
                refine q_getI dX7_readHuts_61 fl7_86 (kR7 hS133.1 ta0) c138 ?_
                refine tr_ishl dX7_readHuts_64 ?_
                refine tr_ior dX7_readHuts_65 ?_
                obtain ⟨v170, lx171⟩ : ∃ z, z = v55 ||| (v168 <<< (v67 &&& 31)) := ⟨_, rfl⟩
                rw [← lx171]
                have p172 : v170.toInt = gh52 + pw (tkV gB gs50) ∧ gh52 + pw (tkV gB gs50) ≤ 15 := by rw [lx171, show gh52 = v55.toInt by omega, show tkV gB gs50 = v67.toInt by omega]; exact hut_or (by omega) (by omega) (by omega) (by rw [show v55.toInt = gh52 by omega, show v67.toInt = tkV gB gs50 by omega]; omega)
                have p1720 := pw_pos (tkV gB gs50)
                refine q_putI dX7_readHuts_66 fl7_274 (kR4 hS133.1 ta1) (Or.inl rfl) hS133 ta1 (iokF rfl) rfl (by decide +kernel) ?_
                intro I173 hS174 e175 f176
                have c177 : I173 a0 2 = v59 := (f176 _ _ (fun q => absurd q.2 (by decide))).trans c135
                have c178 : I173 a0 4 = v61 := (f176 _ _ (fun q => absurd q.2 (by decide))).trans c136
                have c179 : I173 a0 3 = v63 := (f176 _ _ (fun q => absurd q.2 (by decide))).trans c137
                have c180 : I173 a0 6 = v67 := (f176 _ _ (fun q => absurd q.2 (by decide))).trans c138
                have c181 : I173 a0 15 = v154 := (f176 _ _ (fun q => absurd q.2 (by decide))).trans c155
                refine tr_aload_n dX7_readHuts_69 hl45 ?_
                refine q_callVv hE (M' := mX7_step) (as := []) dX7_readHuts_70 lk7_51 inX7_step seX7_step myX7_step (by decide) ⟨by decide, by decide⟩ rfl (kR7 hS174.1 ta0) (Nat.le_of_ble_eq_true rfl) rfl rfl (by decide) (by decide) (fk_X7_step hS174.1 (gB) ((tkN gB gs50)) ta0 (TxA.kp hT hS174 ta0 rfl rfl rfl (by decide +kernel) (by decide +kernel)) (by (try rw [c177]); first | done | omega) (by (try rw [((hS174.cell ta0 (by decide +kernel)).trans c20)]); first | done | omega)) ?_
                rintro cn' K' N' I182 R183 L184 ⟨rfl, rfl, rfl, rfl, g185, gl186, p188, p189, p190, p191, p192, -⟩
                have hS193 := hS174.tr g185 (by decide +kernel) (by decide +kernel)
                have c194 : I182 a0 15 = v154 := (g185.cell ta0 (by decide +kernel)).trans c181
                have c195 : I182 a1 5 = v170 := (g185.cell ta1 (by decide +kernel)).trans e175
                have hL196 := hL54.tr gl186 (by decide +kernel)
                obtain ⟨v197, c198⟩ : ∃ v, I182 a0 2 = v := ⟨_, rfl⟩
                have b199 := iv7_2 hS193.1 ta0 c198
                rw [c198] at p188
                obtain ⟨v200, c201⟩ : ∃ v, I182 a0 4 = v := ⟨_, rfl⟩
                have b202 := iv7_4 hS193.1 ta0 c201
                rw [c201] at p189
                obtain ⟨v203, c204⟩ : ∃ v, I182 a0 3 = v := ⟨_, rfl⟩
                have b205 := iv7_3 hS193.1 ta0 c204
                rw [c204] at p190
                obtain ⟨y206, c207⟩ : ∃ v, L184 a0 5 = v := ⟨_, rfl⟩
                rw [c207] at p191
                obtain ⟨v208, c209⟩ : ∃ v, I182 a0 6 = v := ⟨_, rfl⟩
                rw [c209] at p192
                refine tr_aload_n dX7_readHuts_73 hl45 ?_
                refine q_getI dX7_readHuts_74 fl7_58 (kR7 hS193.1 ta0) c204 ?_
                refine q_iconst dX7_readHuts_77 (by decide) ?_
                intro v210 h211
                refine q_icmp_eq 83 dX7_readHuts_78 (by decide) (fun h212 => ?_) (fun h212 => ?_)
                · skip
                  refine tr_aload_n dX7_readHuts_83 hl45 ?_
                  refine q_callVv hE (M' := mX7_step) (as := []) dX7_readHuts_84 lk7_51 inX7_step seX7_step myX7_step (by decide) ⟨by decide, by decide⟩ rfl (kR7 hS193.1 ta0) (Nat.le_of_ble_eq_true rfl) rfl rfl (by decide) (by decide) (fk_X7_step hS193.1 (gB) ((tkN gB (tkN gB gs50))) ta0 (TxA.kp hT hS193 ta0 rfl rfl rfl (by decide +kernel) (by decide +kernel)) (by (try rw [c198]); first | done | omega) (by (try rw [((hS193.cell ta0 (by decide +kernel)).trans c20)]); first | done | omega)) ?_
                  rintro cn' K' N' I213 R214 L215 ⟨rfl, rfl, rfl, rfl, g216, gl217, p219, p220, p221, p222, p223, -⟩
                  have hS224 := hS193.tr g216 (by decide +kernel) (by decide +kernel)
                  have c225 : I213 a0 15 = v154 := (g216.cell ta0 (by decide +kernel)).trans c194
                  have c226 : I213 a1 5 = v170 := (g216.cell ta1 (by decide +kernel)).trans c195
                  have hL227 := hL196.tr gl217 (by decide +kernel)
                  obtain ⟨v228, c229⟩ : ∃ v, I213 a0 2 = v := ⟨_, rfl⟩
                  have b230 := iv7_2 hS224.1 ta0 c229
                  rw [c229] at p219
                  obtain ⟨v231, c232⟩ : ∃ v, I213 a0 4 = v := ⟨_, rfl⟩
                  have b233 := iv7_4 hS224.1 ta0 c232
                  rw [c232] at p220
                  obtain ⟨v234, c235⟩ : ∃ v, I213 a0 3 = v := ⟨_, rfl⟩
                  have b236 := iv7_3 hS224.1 ta0 c235
                  rw [c235] at p221
                  obtain ⟨y237, c238⟩ : ∃ v, L215 a0 5 = v := ⟨_, rfl⟩
                  rw [c238] at p222
                  obtain ⟨v239, c240⟩ : ∃ v, I213 a0 6 = v := ⟨_, rfl⟩
                  rw [c240] at p223
                  refine q_iincE dX7_readHuts_87 hl47 (by decide) (by decide) (by intros; omega) ?_
                  intro v241 h242
                  refine tr_goto 7 dX7_readHuts_90 (by decide) ?_
                  exact ih84 _ v241 I213 L215 ((tkN gB (tkN gB gs50))) (gk90) ((gh52 + pw (tkV gB gs50))) v170 v154 v228 v231 v234 y237 v239 hl45 hl46 rfl hS224 hL227 c226 c225 c229 c232 c235 c238 c240 (by rw [← g69]; simp only [huF, ↓reduceIte]; repeat' (first | split | omega)) (by rw [← g70]; simp only [huP, ↓reduceIte]; repeat' (first | split | omega)) (by rw [← g71]; simp only [huS, ↓reduceIte]; repeat' (first | split | omega)) (by omega) (by omega) (by omega) (by omega) (by omega) (by omega) (by omega) (by omega) (by omega) (by omega) (by assumption) (by assumption) (by omega)
                · skip
                  refine q_iconst dX7_readHuts_81 (by decide) ?_
                  intro v243 h244
                  have es245 : huS gB gQ 901 0 gs = (tkN gB gs50) := by rw [← g71]; simp only [huS, ↓reduceIte]; repeat' (first | split | omega)
                  obtain ⟨v246, c247⟩ : ∃ v, I182 a0 16 = v := ⟨_, rfl⟩
                  exact tr_zret hZ dX7_readHuts_82 rfl (ti_b01 (by omega) (by omega)) (by decide) (by decide) ⟨v243, rfl, rfl, rfl, rfl, rfl, hS193, hL196, (by omega), (Or.inl ⟨(by (try rw [es245]); first | done | omega), (by (try rw [es245]); (try rw [c194]); (try rw [c30]); first | done | omega), (by rw [← g69]; simp only [huF, ↓reduceIte]; repeat' (first | split | omega)), (by (try rw [es245]); (try rw [c198]); first | done | omega), (by (try rw [es245]); (try rw [c201]); first | done | omega), (by (try rw [es245]); (try rw [c204]); first | done | omega), (by (try rw [es245]); (try rw [c207]); first | done | assumption), (by (try rw [es245]); (try rw [c209]); first | done | assumption), trivial⟩), trivial⟩
              · skip
                refine tr_aload_n dX7_readHuts_48 hl45 ?_
                refine q_iconst dX7_readHuts_49 (by decide) ?_
                intro v248 h249
                refine q_callVi hE (M' := mX7_fail) (as := [_]) dX7_readHuts_50 lk7_64 inX7_fail seX7_fail myX7_fail (by decide) ⟨by decide, by decide⟩ rfl (kR7 hS133.1 ta0) (Nat.le_of_ble_eq_true rfl) rfl rfl (by decide) (by decide) (fk_X7_fail hS133.1  ta0 (by omega)) ?_
                rintro v255 cn' K' N' I250 R251 L252 ⟨rfl, rfl, rfl, rfl, rfl, g253, h256, p257, p258, p259, -⟩
                have hS260 := hS133.tr g253 (by decide +kernel) (by decide +kernel)
                have c261 : I250 a1 5 = v55 := (g253.cell ta1 (by decide +kernel)).trans c134
                have c262 : I250 a0 2 = v59 := (g253.cell ta0 (by decide +kernel)).trans c135
                have c263 : I250 a0 4 = v61 := (g253.cell ta0 (by decide +kernel)).trans c136
                have c264 : I250 a0 3 = v63 := (g253.cell ta0 (by decide +kernel)).trans c137
                have c265 : I250 a0 6 = v67 := (g253.cell ta0 (by decide +kernel)).trans c138
                obtain ⟨v266, c267⟩ : ∃ v, I250 a0 15 = v := ⟨_, rfl⟩
                rw [c267] at p258
                obtain ⟨v268, c269⟩ : ∃ v, I250 a0 16 = v := ⟨_, rfl⟩
                rw [c269] at p259
                rw [c136] at p259
                exact tr_zret hZ dX7_readHuts_53 rfl (ti_b01 (by omega) (by omega)) (by decide) (by decide) ⟨v255, rfl, rfl, rfl, rfl, rfl, hS260, hL54, (by omega), (Or.inr (⟨(by first | done | omega), (by rw [← g69]; simp only [huF, ↓reduceIte]; repeat' (first | split | omega)), (by (try rw [c267]); rw [← g69]; simp only [huF, ↓reduceIte]; repeat' (first | split | omega)), (by (try rw [c269]); rw [← g70]; simp only [huP, ↓reduceIte]; repeat' (first | split | omega)), trivial⟩)), trivial⟩
            · skip
              exfalso; omega
          · skip
            obtain ⟨v270, c271⟩ : ∃ v, I125 a0 15 = v := ⟨_, rfl⟩
            rw [c271] at p147
            obtain ⟨v272, c273⟩ : ∃ v, I125 a0 16 = v := ⟨_, rfl⟩
            rw [c273] at p148
            refine q_if_ne 33 dX7_readHuts_28 (by decide) (fun h274 => ?_) (fun h274 => ?_)
            · skip
              exfalso; omega
            · skip
              refine q_iconst dX7_readHuts_31 (by decide) ?_
              intro v275 h276
              exact tr_zret hZ dX7_readHuts_32 rfl (ti_b01 (by omega) (by omega)) (by decide) (by decide) ⟨v275, rfl, rfl, rfl, rfl, rfl, hS133, hL54, (by omega), (Or.inr (⟨(by first | done | omega), (by rw [← g69]; simp only [huF, ↓reduceIte]; repeat' (first | split | omega)), (by (try rw [c271]); rw [← g69]; simp only [huF, ↓reduceIte]; repeat' (first | split | omega)), (by (try rw [c273]); rw [← g70]; simp only [huP, ↓reduceIte]; repeat' (first | split | omega)), trivial⟩)), trivial⟩
          · skip
            obtain ⟨v277, c278⟩ : ∃ v, I125 a0 15 = v := ⟨_, rfl⟩
            rw [c278] at p152
            obtain ⟨v279, c280⟩ : ∃ v, I125 a0 16 = v := ⟨_, rfl⟩
            rw [c280] at p153
            refine q_if_ne 33 dX7_readHuts_28 (by decide) (fun h281 => ?_) (fun h281 => ?_)
            · skip
              exfalso; omega
            · skip
              refine q_iconst dX7_readHuts_31 (by decide) ?_
              intro v282 h283
              exact tr_zret hZ dX7_readHuts_32 rfl (ti_b01 (by omega) (by omega)) (by decide) (by decide) ⟨v282, rfl, rfl, rfl, rfl, rfl, hS133, hL54, (by omega), (Or.inr (⟨(by first | done | omega), (by rw [← g69]; simp only [huF, ↓reduceIte]; repeat' (first | split | omega)), (by (try rw [c278]); rw [← g69]; simp only [huF, ↓reduceIte]; repeat' (first | split | omega)), (by (try rw [c280]); rw [← g70]; simp only [huP, ↓reduceIte]; repeat' (first | split | omega)), trivial⟩)), trivial⟩
  exact lp84 _ _ v42 I33 L0 (gs) (901) (0) v31 v29 v1 v5 v9 y13 v16 rfl rfl rfl hS34 hL0 e35 c41 c37 c38 c39 c14 c40 (by first | rfl | (congr 1; omega) | (congr 2 <;> omega)) (by first | rfl | (congr 1; omega) | (congr 2 <;> omega)) (by first | rfl | (congr 1; omega) | (congr 2 <;> omega)) (by omega) (by omega) (by omega) (by omega) (by omega) (by omega) (by omega) (by omega) (by omega) (by omega) (by assumption) (by assumption) (Nat.lt_succ_self _)
def wik_X7_readTurner : List Nat := [137, 256, 257, 258, 259, 260, 261, 450, 451, 452, 454, 455, 456, 457, 463, 464]
def wrk_X7_readTurner : List Nat := []
def wlk_X7_readTurner : List Nat := [453, 1727]
set_option maxHeartbeats 4000000 in
theorem fk_X7_readTurner {l : Launch} {T : Nat → Nat} {cn : Nat} {K N : Nat → Nat} {I0 : cz_I} {R0 : cz_R} {L0 : cz_L} {d : Int} (hW0 : Wf T cn K N I0 R0 d) (gB : cz_B) (gs : Int) (gQ : Nat → Int) {a0 : Nat} (ta0 : T a0 = 7) (hT : ∀ t, R0 a0 0 = some t → Tx I0 t gB) (hN : NmC L0 R0 a0 gQ) (pre0 : (I0 a0 2).toInt = (tkN gB gs)) (pre1 : (I0 a0 4).toInt = (tkS gB gs)) (pre2 : (I0 a0 3).toInt = (tkK gB gs)) (pre3 : (AtW ((tkK gB gs)) ((L0 a0 5).toInt) ((tkW gB gs)))) (pre4 : (AtV ((tkK gB gs)) ((I0 a0 6).toInt) ((tkV gB gs)))) (pre5 : (I0 a0 1).toInt = (gB.2)) (pre6 : ∀ b1, R0 a0 10 = some b1 → (I0 b1 0).toInt = (gQ 0)) (pre7 : ∀ b1, R0 a0 10 = some b1 → (I0 b1 1).toInt = (gQ 1)) (pre8 : ∀ b1, R0 a0 10 = some b1 → (I0 b1 5).toInt = (gQ 3)) (pre9 : ∀ b1, R0 a0 10 = some b1 → (I0 b1 9).toInt = (gQ 4)) (pre10 : (gQ 4) ≤ 4) (pre11 : (gQ 3) ≤ 8) : ConE l mX7_readTurner [.ref a0] cn K N I0 R0 L0 (ca_i (fun v cn' K' N' I' R' L' => cn = cn' ∧ K = K' ∧ N = N' ∧ R0 = R' ∧ St T cn K N d wik_X7_readTurner wrk_X7_readTurner I0 R0 I' R0 ∧ LgS T wlk_X7_readTurner L0 L' ∧ (0 ≤ v.toInt ∧ v.toInt ≤ 1) ∧ (((v.toInt = 1) ∧ ((I' a0 15).toInt = (I0 a0 15).toInt) ∧ ((tuF gB gQ gs) = 0) ∧ (∀ b1, R0 a0 10 = some b1 → (I' b1 9).toInt = (gQ 4) + 1) ∧ ((I' a0 2).toInt = (tkN gB (tuS gB gQ gs))) ∧ ((I' a0 4).toInt = (tkS gB (tuS gB gQ gs))) ∧ ((I' a0 3).toInt = (tkK gB (tuS gB gQ gs))) ∧ ((AtW ((tkK gB (tuS gB gQ gs))) ((L' a0 5).toInt) ((tkW gB (tuS gB gQ gs))))) ∧ ((AtV ((tkK gB (tuS gB gQ gs))) ((I' a0 6).toInt) ((tkV gB (tuS gB gQ gs))))) ∧ (NmC L' R0 a0 (bdQ gB gQ 7 gs)) ∧ True) ∨ ((v.toInt = 0) ∧ ((tuF gB gQ gs) ≠ 0) ∧ ((I' a0 15).toInt = (tuF gB gQ gs)) ∧ ((I' a0 16).toInt = (tuP gB gQ gs)) ∧ True)) ∧ True)) := by
  refine ConE.of (by decide +kernel) rfl (Nat.le_of_ble_eq_true rfl) rfl (fun X hX hZ hE => ?_)
  subst hX
  have hS0 : St T cn K N d wik_X7_readTurner wrk_X7_readTurner I0 R0 I0 R0 := St.rf0 hW0
  have hL0 : LgS T wlk_X7_readTurner L0 L0 := LgS.rf0
  obtain ⟨v1, c2⟩ : ∃ v, I0 a0 2 = v := ⟨_, rfl⟩
  have b3 := iv7_2 hS0.1 ta0 c2
  have p4 := pre0
  rw [c2] at p4
  obtain ⟨v5, c6⟩ : ∃ v, I0 a0 4 = v := ⟨_, rfl⟩
  have b7 := iv7_4 hS0.1 ta0 c6
  have p8 := pre1
  rw [c6] at p8
  obtain ⟨v9, c10⟩ : ∃ v, I0 a0 3 = v := ⟨_, rfl⟩
  have b11 := iv7_3 hS0.1 ta0 c10
  have p12 := pre2
  rw [c10] at p12
  obtain ⟨y13, c14⟩ : ∃ v, L0 a0 5 = v := ⟨_, rfl⟩
  have p15 := pre3
  rw [c14] at p15
  obtain ⟨v16, c17⟩ : ∃ v, I0 a0 6 = v := ⟨_, rfl⟩
  have p18 := pre4
  rw [c17] at p18
  obtain ⟨v19, c20⟩ : ∃ v, I0 a0 1 = v := ⟨_, rfl⟩
  have b21 := iv7_1 hW0 ta0 c20
  have p22 := pre5
  rw [c20] at p22
  obtain ⟨a23, d24, ta23⟩ := rf7_10 hW0 ta0
  obtain ⟨v25, c26⟩ : ∃ v, I0 a23 0 = v := ⟨_, rfl⟩
  have b27 := iv2_0 hW0 ta23 c26
  have p28 := pre6 _ d24
  rw [c26] at p28
  obtain ⟨v29, c30⟩ : ∃ v, I0 a23 1 = v := ⟨_, rfl⟩
  have b31 := iv2_1 hW0 ta23 c30
  have p32 := pre7 _ d24
  rw [c30] at p32
  obtain ⟨v33, c34⟩ : ∃ v, I0 a23 5 = v := ⟨_, rfl⟩
  have b35 := iv2_5 hW0 ta23 c34
  have p36 := pre8 _ d24
  rw [c34] at p36
  obtain ⟨v37, c38⟩ : ∃ v, I0 a23 9 = v := ⟨_, rfl⟩
  have b39 := iv2_9 hS0.1 ta23 c38
  have p40 := pre9 _ d24
  rw [c38] at p40
  have p41 := pre10
  have p42 := pre11
  obtain ⟨v43, c44⟩ : ∃ v, I0 a0 15 = v := ⟨_, rfl⟩
  have hF := tuF_ch gB gQ gs
  have hP := tuP_ch gB gQ gs
  refine tr_aload_n dX7_readTurner_0 rfl ?_
  refine q_callVi hE (M' := mX7_seesNewName) (as := []) dX7_readTurner_1 lk7_231 inX7_seesNewName seX7_seesNewName myX7_seesNewName (by decide) ⟨by decide, by decide⟩ rfl (kR7 hS0.1 ta0) (Nat.le_of_ble_eq_true rfl) rfl rfl (by decide) (by decide) (fk_X7_seesNewName hS0.1 (gB) (gs) (gQ) ta0 hN (by (try rw [c6]); first | done | omega) (by (try rw [c10]); first | done | omega) (by (try rw [c14]); first | done | assumption) (fun q0 z0 => by obtain rfl := Option.some.inj ((d24).symm.trans z0); (try rw [c34]); first | done | omega) (fun q0 z0 => by obtain rfl := Option.some.inj ((d24).symm.trans z0); (try rw [c38]); first | done | omega)) ?_
  rintro v50 cn' K' N' I45 R46 L47 ⟨rfl, rfl, rfl, rfl, rfl, g48, h51, dj52, -⟩
  have hS53 := hS0.tr g48 (by decide +kernel) (by decide +kernel)
  have c54 : I45 a0 2 = v1 := (g48.cell ta0 (by decide +kernel)).trans c2
  have c55 : I45 a0 4 = v5 := (g48.cell ta0 (by decide +kernel)).trans c6
  have c56 : I45 a0 3 = v9 := (g48.cell ta0 (by decide +kernel)).trans c10
  have c57 : I45 a0 6 = v16 := (g48.cell ta0 (by decide +kernel)).trans c17
  have c58 : I45 a23 9 = v37 := (g48.cell ta23 (by decide +kernel)).trans c38
  rcases dj52 with ⟨p59, p60, p61, p62, p63, p64, -⟩ | ⟨p65, p66, p67, p68, -⟩ | ⟨p69, p70, p71, p72, p73, -⟩
  · skip
    obtain ⟨v74, c75⟩ : ∃ v, I45 a0 15 = v := ⟨_, rfl⟩
    rw [c75] at p60
    rw [c44] at p60
    replace hF := hF.neg (by omega)
    replace hP := hP.neg (by omega)
    replace hF := hF.neg (by omega)
    replace hP := hP.neg (by omega)
    refine q_if_ne 9 dX7_readTurner_4 (by decide) (fun h76 => ?_) (fun h76 => ?_)
    · skip
      refine tr_aload_n dX7_readTurner_9 rfl ?_
      obtain ⟨a77, d78, ta77⟩ := rf7_14 hW0 ta0
      refine tr_getR dX7_readTurner_10 fl7_15 (kR7 hS53.1 ta0) d78 ?_
      refine tr_aload_n dX7_readTurner_13 rfl ?_
      refine tr_getR dX7_readTurner_14 fl7_22 (kR7 hS53.1 ta0) d24 ?_
      refine q_getI dX7_readTurner_17 fl7_156 (kR2 hS53.1 ta23) c58 ?_
      refine tr_aload_n dX7_readTurner_20 rfl ?_
      have p79 := p15 (by omega)
      refine q_getLE dX7_readTurner_21 fl7_78 (kR7 hS53.1 ta0) c14 ?_
      refine q_lastE dX7_readTurner_24 (kR26 hS53.1 ta77) (ti_in (nR26 hS53.1 ta77) (by omega) (by omega)) hL0 ta77 (by rfl) ?_
      intro L80 hL81 e82 f83
      have c84 : L80 a0 5 = y13 := (f83 _ _ (fun q => by have z := ta0; rw [q.1, ta77] at z; exact absurd z (by decide))).trans c14
      have hN85 : NmC L80 R0 a0 gQ := NmC.w14 hN hS53.1 ta0 d78 f83 (by have q := ti_nat (i := v37) (by omega); omega)
      refine tr_aload_n dX7_readTurner_25 rfl ?_
      refine tr_getR dX7_readTurner_26 fl7_22 (kR7 hS53.1 ta0) d24 ?_
      obtain ⟨a86, d87, ta86⟩ := rf2_10 hW0 ta23
      refine tr_getR dX7_readTurner_29 fl7_243 (kR2 hS53.1 ta23) d87 ?_
      refine tr_aload_n dX7_readTurner_32 rfl ?_
      refine tr_getR dX7_readTurner_33 fl7_22 (kR7 hS53.1 ta0) d24 ?_
      refine q_getI dX7_readTurner_36 fl7_156 (kR2 hS53.1 ta23) c58 ?_
      obtain ⟨a88, d89, ta88⟩ := rf21 hS53.1 ta86 (j := v37.toNatClampNeg) (ti_lt (by omega) (by omega))
      refine tr_aald dX7_readTurner_39 (kR21 hS53.1 ta86) (by decide) (by decide) (ti_in (nR21 hS53.1 ta86) (by omega) (by omega)) d89 ?_
      refine tr_astore_n dX7_readTurner_40 (by decide) (by decide) ?_
      refine tr_aload_n dX7_readTurner_41 rfl ?_
      refine q_callVv hE (M' := mX7_step) (as := []) dX7_readTurner_42 lk7_51 inX7_step seX7_step myX7_step (by decide) ⟨by decide, by decide⟩ rfl (kR7 hS53.1 ta0) (Nat.le_of_ble_eq_true rfl) rfl rfl (by decide) (by decide) (fk_X7_step hS53.1 (gB) ((tkN gB gs)) ta0 (TxA.kp hT hS53 ta0 rfl rfl rfl (by decide +kernel) (by decide +kernel)) (by (try rw [c54]); first | done | omega) (by (try rw [((hS53.cell ta0 (by decide +kernel)).trans c20)]); first | done | omega)) ?_
      rintro cn' K' N' I90 R91 L92 ⟨rfl, rfl, rfl, rfl, g93, gl94, p96, p97, p98, p99, p100, -⟩
      have hS101 := hS53.tr g93 (by decide +kernel) (by decide +kernel)
      have c102 : I90 a23 9 = v37 := (g93.cell ta23 (by decide +kernel)).trans c58
      have c103 : I90 a0 15 = v74 := (g93.cell ta0 (by decide +kernel)).trans c75
      have hL104 := hL81.tr gl94 (by decide +kernel)
      have c105 : L92 a77 v37.toNatClampNeg = y13 := (gl94.cell ta77 (wm_no (by decide +kernel))).trans e82
      have hN106 : NmC L92 R0 a0 gQ := NmC.kp hN85 gl94 hS101.1 ta0 (by decide +kernel) (by decide +kernel)
      obtain ⟨v107, c108⟩ : ∃ v, I90 a0 2 = v := ⟨_, rfl⟩
      have b109 := iv7_2 hS101.1 ta0 c108
      rw [c108] at p96
      obtain ⟨v110, c111⟩ : ∃ v, I90 a0 4 = v := ⟨_, rfl⟩
      have b112 := iv7_4 hS101.1 ta0 c111
      rw [c111] at p97
      obtain ⟨v113, c114⟩ : ∃ v, I90 a0 3 = v := ⟨_, rfl⟩
      have b115 := iv7_3 hS101.1 ta0 c114
      rw [c114] at p98
      obtain ⟨y116, c117⟩ : ∃ v, L92 a0 5 = v := ⟨_, rfl⟩
      rw [c117] at p99
      obtain ⟨v118, c119⟩ : ∃ v, I90 a0 6 = v := ⟨_, rfl⟩
      rw [c119] at p100
      refine tr_aload_n dX7_readTurner_45 rfl ?_
      refine tr_aload_n dX7_readTurner_46 rfl ?_
      refine q_callVi hE (M' := mX7_turnerKind) (as := []) dX7_readTurner_47 lk7_247 inX7_turnerKind seX7_turnerKind myX7_turnerKind (by decide) ⟨by decide, by decide⟩ rfl (kR7 hS101.1 ta0) (Nat.le_of_ble_eq_true rfl) rfl rfl (by decide) (by decide) (fk_X7_turnerKind hS101.1 (gB) ((tkN gB gs)) ta0 (by (try rw [c114]); first | done | omega) (by (try rw [c117]); first | done | assumption)) ?_
      rintro v125 cn' K' N' I120 R121 L122 ⟨rfl, rfl, rfl, rfl, rfl, rfl, h126, p127, -⟩
      refine q_putI dX7_readTurner_50 fl7_250 (kR4 hS101.1 ta88) (Or.inl rfl) hS101 ta88 (iokF rfl) rfl (by decide +kernel) ?_
      intro I128 hS129 e130 f131
      have c132 : I128 a23 9 = v37 := (f131 _ _ (fun q => absurd q.2 (by decide))).trans c102
      have c133 : I128 a0 15 = v74 := (f131 _ _ (fun q => absurd q.2 (by decide))).trans c103
      have c134 : I128 a0 2 = v107 := (f131 _ _ (fun q => absurd q.2 (by decide))).trans c108
      have c135 : I128 a0 4 = v110 := (f131 _ _ (fun q => absurd q.2 (by decide))).trans c111
      have c136 : I128 a0 3 = v113 := (f131 _ _ (fun q => absurd q.2 (by decide))).trans c114
      have c137 : I128 a0 6 = v118 := (f131 _ _ (fun q => absurd q.2 (by decide))).trans c119
      refine tr_aload_n dX7_readTurner_53 rfl ?_
      refine q_getI dX7_readTurner_54 fl7_250 (kR4 hS129.1 ta88) e130 ?_
      refine q_iconst dX7_readTurner_57 (by decide) ?_
      intro v138 h139
      refine q_icmp_ne 67 dX7_readTurner_58 (by decide) (fun h140 => ?_) (fun h140 => ?_)
      · skip
        replace hF := hF.neg (by omega)
        replace hP := hP.neg (by omega)
        refine tr_aload_n dX7_readTurner_67 rfl ?_
        refine q_callVv hE (M' := mX7_step) (as := []) dX7_readTurner_68 lk7_51 inX7_step seX7_step myX7_step (by decide) ⟨by decide, by decide⟩ rfl (kR7 hS129.1 ta0) (Nat.le_of_ble_eq_true rfl) rfl rfl (by decide) (by decide) (fk_X7_step hS129.1 (gB) ((tkN gB (tkN gB gs))) ta0 (TxA.kp hT hS129 ta0 rfl rfl rfl (by decide +kernel) (by decide +kernel)) (by (try rw [c134]); first | done | omega) (by (try rw [((hS129.cell ta0 (by decide +kernel)).trans c20)]); first | done | omega)) ?_
        rintro cn' K' N' I141 R142 L143 ⟨rfl, rfl, rfl, rfl, g144, gl145, p147, p148, p149, p150, p151, -⟩
        have hS152 := hS129.tr g144 (by decide +kernel) (by decide +kernel)
        have c153 : I141 a23 9 = v37 := (g144.cell ta23 (by decide +kernel)).trans c132
        have c154 : I141 a0 15 = v74 := (g144.cell ta0 (by decide +kernel)).trans c133
        have c155 : I141 a88 0 = v125 := (g144.cell ta88 (by decide +kernel)).trans e130
        have hL156 := hL104.tr gl145 (by decide +kernel)
        have c157 : L143 a77 v37.toNatClampNeg = y13 := (gl145.cell ta77 (wm_no (by decide +kernel))).trans c105
        have hN158 : NmC L143 R0 a0 gQ := NmC.kp hN106 gl145 hS152.1 ta0 (by decide +kernel) (by decide +kernel)
        obtain ⟨v159, c160⟩ : ∃ v, I141 a0 2 = v := ⟨_, rfl⟩
        have b161 := iv7_2 hS152.1 ta0 c160
        rw [c160] at p147
        obtain ⟨v162, c163⟩ : ∃ v, I141 a0 4 = v := ⟨_, rfl⟩
        have b164 := iv7_4 hS152.1 ta0 c163
        rw [c163] at p148
        obtain ⟨v165, c166⟩ : ∃ v, I141 a0 3 = v := ⟨_, rfl⟩
        have b167 := iv7_3 hS152.1 ta0 c166
        rw [c166] at p149
        obtain ⟨y168, c169⟩ : ∃ v, L143 a0 5 = v := ⟨_, rfl⟩
        rw [c169] at p150
        obtain ⟨v170, c171⟩ : ∃ v, I141 a0 6 = v := ⟨_, rfl⟩
        rw [c171] at p151
        refine tr_aload_n dX7_readTurner_71 rfl ?_
        refine tr_ldcS dX7_readTurner_72 ld7_253 ?_
        refine q_callVi hE (M' := mX7_takeWord) (as := [_]) dX7_readTurner_74 lk7_126 inX7_takeWord seX7_takeWord myX7_takeWord (by decide) ⟨by decide, by decide⟩ rfl (kR7 hS152.1 ta0) (Nat.le_of_ble_eq_true rfl) rfl rfl (by decide) (by decide) (fk_X7_takeWord hS152.1 (gB) ((tkN gB (tkN gB gs))) ta0 (by decide) (TxA.kp hT hS152 ta0 rfl rfl rfl (by decide +kernel) (by decide +kernel)) (by (try rw [c160]); first | done | omega) (by (try rw [c163]); first | done | omega) (by (try rw [c166]); first | done | omega) (by (try rw [c169]); first | done | assumption) (by (try rw [c171]); first | done | assumption) (by (try rw [((hS152.cell ta0 (by decide +kernel)).trans c20)]); first | done | omega)) ?_
        rintro v177 cn' K' N' I172 R173 L174 ⟨rfl, rfl, rfl, rfl, g175, gl176, h178, dj179, -⟩
        (try rw [pk_13] at dj179)
        have hS180 := hS152.tr g175 (by decide +kernel) (by decide +kernel)
        have c181 : I172 a23 9 = v37 := (g175.cell ta23 (by decide +kernel)).trans c153
        have c182 : I172 a88 0 = v125 := (g175.cell ta88 (by decide +kernel)).trans c155
        have hL183 := hL156.tr gl176 (by decide +kernel)
        have c184 : L174 a77 v37.toNatClampNeg = y13 := (gl176.cell ta77 (wm_no (by decide +kernel))).trans c157
        have hN185 : NmC L174 R0 a0 gQ := NmC.kp hN158 gl176 hS180.1 ta0 (by decide +kernel) (by decide +kernel)
        rcases dj179 with ⟨p186, p187, p188, p189, p190, p191, p192, p193, p194, -⟩ | ⟨p195, p196, p197, p198, -⟩
        · skip
          obtain ⟨v199, c200⟩ : ∃ v, I172 a0 15 = v := ⟨_, rfl⟩
          rw [c200] at p187
          rw [c154] at p187
          obtain ⟨v201, c202⟩ : ∃ v, I172 a0 2 = v := ⟨_, rfl⟩
          have b203 := iv7_2 hS180.1 ta0 c202
          rw [c202] at p190
          obtain ⟨v204, c205⟩ : ∃ v, I172 a0 4 = v := ⟨_, rfl⟩
          have b206 := iv7_4 hS180.1 ta0 c205
          rw [c205] at p191
          obtain ⟨v207, c208⟩ : ∃ v, I172 a0 3 = v := ⟨_, rfl⟩
          have b209 := iv7_3 hS180.1 ta0 c208
          rw [c208] at p192
          obtain ⟨y210, c211⟩ : ∃ v, L174 a0 5 = v := ⟨_, rfl⟩
          rw [c211] at p193
          obtain ⟨v212, c213⟩ : ∃ v, I172 a0 6 = v := ⟨_, rfl⟩
          rw [c213] at p194
          replace hF := hF.neg (by omega)
          replace hP := hP.neg (by omega)
          refine q_if_eq 87 dX7_readTurner_77 (by decide) (fun h214 => ?_) (fun h214 => ?_)
          · skip
            exfalso; omega
          · skip
            refine tr_aload_n dX7_readTurner_80 rfl ?_
            refine q_callVi hE (M' := mX7_takeSpan) (as := []) dX7_readTurner_81 lk7_226 inX7_takeSpan seX7_takeSpan myX7_takeSpan (by decide) ⟨by decide, by decide⟩ rfl (kR7 hS180.1 ta0) (Nat.le_of_ble_eq_true rfl) rfl rfl (by decide) (by decide) (fk_X7_takeSpan hS180.1 (gB) ((tkN gB (tkN gB (tkN gB gs)))) (gQ) ta0 (TxA.kp hT hS180 ta0 rfl rfl rfl (by decide +kernel) (by decide +kernel)) (by (try rw [c202]); first | done | omega) (by (try rw [c205]); first | done | omega) (by (try rw [c208]); first | done | omega) (by (try rw [c211]); first | done | assumption) (by (try rw [c213]); first | done | assumption) (by (try rw [((hS180.cell ta0 (by decide +kernel)).trans c20)]); first | done | omega) (fun q0 z0 => by obtain rfl := Option.some.inj ((d24).symm.trans z0); (try rw [((hS180.cell ta23 (by decide +kernel)).trans c26)]); first | done | omega)) ?_
            rintro v220 cn' K' N' I215 R216 L217 ⟨rfl, rfl, rfl, rfl, g218, gl219, h221, dj222, -⟩
            have hS223 := hS180.tr g218 (by decide +kernel) (by decide +kernel)
            have c224 : I215 a23 9 = v37 := (g218.cell ta23 (by decide +kernel)).trans c181
            have c225 : I215 a88 0 = v125 := (g218.cell ta88 (by decide +kernel)).trans c182
            have hL226 := hL183.tr gl219 (by decide +kernel)
            have c227 : L217 a77 v37.toNatClampNeg = y13 := (gl219.cell ta77 (wm_no (by decide +kernel))).trans c184
            have hN228 : NmC L217 R0 a0 gQ := NmC.kp hN185 gl219 hS223.1 ta0 (by decide +kernel) (by decide +kernel)
            rcases dj222 with ⟨p229, p230, p231, p232, p233, p234, p235, p236, p237, p238, -⟩ | ⟨p239, p240, p241, p242, -⟩
            · skip
              obtain ⟨v243, c244⟩ : ∃ v, I215 a0 15 = v := ⟨_, rfl⟩
              rw [c244] at p230
              rw [c200] at p230
              obtain ⟨v245, c246⟩ : ∃ v, I215 a0 8 = v := ⟨_, rfl⟩
              have b247 := iv7_8 hS223.1 ta0 c246
              rw [c246] at p232
              obtain ⟨v248, c249⟩ : ∃ v, I215 a0 9 = v := ⟨_, rfl⟩
              have b250 := iv7_9 hS223.1 ta0 c249
              rw [c249] at p233
              obtain ⟨v251, c252⟩ : ∃ v, I215 a0 2 = v := ⟨_, rfl⟩
              have b253 := iv7_2 hS223.1 ta0 c252
              rw [c252] at p234
              obtain ⟨v254, c255⟩ : ∃ v, I215 a0 4 = v := ⟨_, rfl⟩
              have b256 := iv7_4 hS223.1 ta0 c255
              rw [c255] at p235
              obtain ⟨v257, c258⟩ : ∃ v, I215 a0 3 = v := ⟨_, rfl⟩
              have b259 := iv7_3 hS223.1 ta0 c258
              rw [c258] at p236
              obtain ⟨y260, c261⟩ : ∃ v, L217 a0 5 = v := ⟨_, rfl⟩
              rw [c261] at p237
              obtain ⟨v262, c263⟩ : ∃ v, I215 a0 6 = v := ⟨_, rfl⟩
              rw [c263] at p238
              replace hF := hF.neg (by omega)
              replace hP := hP.neg (by omega)
              refine q_if_ne 89 dX7_readTurner_84 (by decide) (fun h264 => ?_) (fun h264 => ?_)
              · skip
                refine tr_aload_n dX7_readTurner_89 rfl ?_
                refine tr_aload_n dX7_readTurner_90 rfl ?_
                refine q_getI dX7_readTurner_91 fl7_121 (kR7 hS223.1 ta0) c246 ?_
                refine q_putI dX7_readTurner_94 fl7_254 (kR4 hS223.1 ta88) (Or.inl rfl) hS223 ta88 (iokF rfl) rfl (by decide +kernel) ?_
                intro I265 hS266 e267 f268
                have c269 : I265 a23 9 = v37 := (f268 _ _ (fun q => absurd q.2 (by decide))).trans c224
                have c270 : I265 a88 0 = v125 := (f268 _ _ (fun q => absurd q.2 (by decide))).trans c225
                have c271 : I265 a0 15 = v243 := (f268 _ _ (fun q => absurd q.2 (by decide))).trans c244
                have c272 : I265 a0 8 = v245 := (f268 _ _ (fun q => absurd q.2 (by decide))).trans c246
                have c273 : I265 a0 9 = v248 := (f268 _ _ (fun q => absurd q.2 (by decide))).trans c249
                have c274 : I265 a0 2 = v251 := (f268 _ _ (fun q => absurd q.2 (by decide))).trans c252
                have c275 : I265 a0 4 = v254 := (f268 _ _ (fun q => absurd q.2 (by decide))).trans c255
                have c276 : I265 a0 3 = v257 := (f268 _ _ (fun q => absurd q.2 (by decide))).trans c258
                have c277 : I265 a0 6 = v262 := (f268 _ _ (fun q => absurd q.2 (by decide))).trans c263
                refine tr_aload_n dX7_readTurner_97 rfl ?_
                refine tr_aload_n dX7_readTurner_98 rfl ?_
                refine q_getI dX7_readTurner_99 fl7_129 (kR7 hS266.1 ta0) c273 ?_
                refine q_putI dX7_readTurner_102 fl7_255 (kR4 hS266.1 ta88) (Or.inl rfl) hS266 ta88 (iokF rfl) rfl (by decide +kernel) ?_
                intro I278 hS279 e280 f281
                have c282 : I278 a23 9 = v37 := (f281 _ _ (fun q => absurd q.2 (by decide))).trans c269
                have c283 : I278 a88 0 = v125 := (f281 _ _ (fun q => absurd q.2 (by decide))).trans c270
                have c284 : I278 a0 15 = v243 := (f281 _ _ (fun q => absurd q.2 (by decide))).trans c271
                have c285 : I278 a0 8 = v245 := (f281 _ _ (fun q => absurd q.2 (by decide))).trans c272
                have c286 : I278 a0 9 = v248 := (f281 _ _ (fun q => absurd q.2 (by decide))).trans c273
                have c287 : I278 a0 2 = v251 := (f281 _ _ (fun q => by have z := ta0; rw [q.1, ta88] at z; exact absurd z (by decide))).trans c274
                have c288 : I278 a0 4 = v254 := (f281 _ _ (fun q => absurd q.2 (by decide))).trans c275
                have c289 : I278 a0 3 = v257 := (f281 _ _ (fun q => absurd q.2 (by decide))).trans c276
                have c290 : I278 a0 6 = v262 := (f281 _ _ (fun q => absurd q.2 (by decide))).trans c277
                have c291 : I278 a88 1 = v245 := (f281 _ _ (fun q => absurd q.2 (by decide))).trans e267
                refine tr_aload_n dX7_readTurner_105 rfl ?_
                refine tr_ldcwS dX7_readTurner_106 ld7_256 ?_
                refine q_callVi hE (M' := mX7_takeWord) (as := [_]) dX7_readTurner_109 lk7_126 inX7_takeWord seX7_takeWord myX7_takeWord (by decide) ⟨by decide, by decide⟩ rfl (kR7 hS279.1 ta0) (Nat.le_of_ble_eq_true rfl) rfl rfl (by decide) (by decide) (fk_X7_takeWord hS279.1 (gB) ((tkN gB (tkN gB (tkN gB (tkN gB (tkN gB (tkN gB gs))))))) ta0 (by decide) (TxA.kp hT hS279 ta0 rfl rfl rfl (by decide +kernel) (by decide +kernel)) (by (try rw [c287]); first | done | omega) (by (try rw [c288]); first | done | omega) (by (try rw [c289]); first | done | omega) (by (try rw [c261]); first | done | assumption) (by (try rw [c290]); first | done | assumption) (by (try rw [((hS279.cell ta0 (by decide +kernel)).trans c20)]); first | done | omega)) ?_
                rintro v297 cn' K' N' I292 R293 L294 ⟨rfl, rfl, rfl, rfl, g295, gl296, h298, dj299, -⟩
                (try rw [pk_14] at dj299)
                have hS300 := hS279.tr g295 (by decide +kernel) (by decide +kernel)
                have c301 : I292 a23 9 = v37 := (g295.cell ta23 (by decide +kernel)).trans c282
                have c302 : I292 a88 0 = v125 := (g295.cell ta88 (by decide +kernel)).trans c283
                have c303 : I292 a0 8 = v245 := (g295.cell ta0 (by decide +kernel)).trans c285
                have c304 : I292 a0 9 = v248 := (g295.cell ta0 (by decide +kernel)).trans c286
                have c305 : I292 a88 1 = v245 := (g295.cell ta88 (by decide +kernel)).trans c291
                have c306 : I292 a88 2 = v248 := (g295.cell ta88 (by decide +kernel)).trans e280
                have hL307 := hL226.tr gl296 (by decide +kernel)
                have c308 : L294 a77 v37.toNatClampNeg = y13 := (gl296.cell ta77 (wm_no (by decide +kernel))).trans c227
                have hN309 : NmC L294 R0 a0 gQ := NmC.kp hN228 gl296 hS300.1 ta0 (by decide +kernel) (by decide +kernel)
                rcases dj299 with ⟨p310, p311, p312, p313, p314, p315, p316, p317, p318, -⟩ | ⟨p319, p320, p321, p322, -⟩
                · skip
                  obtain ⟨v323, c324⟩ : ∃ v, I292 a0 15 = v := ⟨_, rfl⟩
                  rw [c324] at p311
                  rw [c284] at p311
                  obtain ⟨v325, c326⟩ : ∃ v, I292 a0 2 = v := ⟨_, rfl⟩
                  have b327 := iv7_2 hS300.1 ta0 c326
                  rw [c326] at p314
                  obtain ⟨v328, c329⟩ : ∃ v, I292 a0 4 = v := ⟨_, rfl⟩
                  have b330 := iv7_4 hS300.1 ta0 c329
                  rw [c329] at p315
                  obtain ⟨v331, c332⟩ : ∃ v, I292 a0 3 = v := ⟨_, rfl⟩
                  have b333 := iv7_3 hS300.1 ta0 c332
                  rw [c332] at p316
                  obtain ⟨y334, c335⟩ : ∃ v, L294 a0 5 = v := ⟨_, rfl⟩
                  rw [c335] at p317
                  obtain ⟨v336, c337⟩ : ∃ v, I292 a0 6 = v := ⟨_, rfl⟩
                  rw [c337] at p318
                  replace hF := hF.neg (by omega)
                  replace hP := hP.neg (by omega)
                  refine q_if_eq 125 dX7_readTurner_112 (by decide) (fun h338 => ?_) (fun h338 => ?_)
                  · skip
                    exfalso; omega
                  · skip
                    refine tr_aload_n dX7_readTurner_115 rfl ?_
                    refine q_iconst dX7_readTurner_116 (by decide) ?_
                    intro v339 h340
                    refine q_bipush dX7_readTurner_117 (by decide +kernel) ?_
                    intro v341 h342
                    refine q_callVi hE (M' := mX7_takeWhole) (as := [_, _]) dX7_readTurner_119 lk7_115 inX7_takeWhole seX7_takeWhole myX7_takeWhole (by decide) ⟨by decide, by decide⟩ rfl (kR7 hS300.1 ta0) (Nat.le_of_ble_eq_true rfl) rfl rfl (by decide) (by decide) (fk_X7_takeWhole hS300.1 (gB) ((tkN gB (tkN gB (tkN gB (tkN gB (tkN gB (tkN gB (tkN gB gs)))))))) ta0 (by omega) (by omega) (TxA.kp hT hS300 ta0 rfl rfl rfl (by decide +kernel) (by decide +kernel)) (by (try rw [c326]); first | done | omega) (by (try rw [c329]); first | done | omega) (by (try rw [c332]); first | done | omega) (by (try rw [c335]); first | done | assumption) (by (try rw [c337]); first | done | assumption) (by (try rw [((hS300.cell ta0 (by decide +kernel)).trans c20)]); first | done | omega)) ?_
                    rintro v348 cn' K' N' I343 R344 L345 ⟨rfl, rfl, rfl, rfl, g346, gl347, h349, dj350, -⟩
                    have hS351 := hS300.tr g346 (by decide +kernel) (by decide +kernel)
                    have c352 : I343 a23 9 = v37 := (g346.cell ta23 (by decide +kernel)).trans c301
                    have c353 : I343 a88 0 = v125 := (g346.cell ta88 (by decide +kernel)).trans c302
                    have c354 : I343 a0 8 = v245 := (g346.cell ta0 (by decide +kernel)).trans c303
                    have c355 : I343 a0 9 = v248 := (g346.cell ta0 (by decide +kernel)).trans c304
                    have c356 : I343 a88 1 = v245 := (g346.cell ta88 (by decide +kernel)).trans c305
                    have c357 : I343 a88 2 = v248 := (g346.cell ta88 (by decide +kernel)).trans c306
                    have hL358 := hL307.tr gl347 (by decide +kernel)
                    have c359 : L345 a77 v37.toNatClampNeg = y13 := (gl347.cell ta77 (wm_no (by decide +kernel))).trans c308
                    have hN360 : NmC L345 R0 a0 gQ := NmC.kp hN309 gl347 hS351.1 ta0 (by decide +kernel) (by decide +kernel)
                    rcases dj350 with ⟨p361, p362, p363, p364, p365, p366, p367, p368, p369, p370, p371, -⟩ | ⟨p372, p373, p374, p375, -⟩ | ⟨p376, p377, p378, p379, p380, -⟩
                    · skip
                      obtain ⟨v381, c382⟩ : ∃ v, I343 a0 15 = v := ⟨_, rfl⟩
                      rw [c382] at p362
                      rw [c324] at p362
                      obtain ⟨v383, c384⟩ : ∃ v, I343 a0 7 = v := ⟨_, rfl⟩
                      have b385 := iv7_7 hS351.1 ta0 c384
                      rw [c384] at p366
                      obtain ⟨v386, c387⟩ : ∃ v, I343 a0 2 = v := ⟨_, rfl⟩
                      have b388 := iv7_2 hS351.1 ta0 c387
                      rw [c387] at p367
                      obtain ⟨v389, c390⟩ : ∃ v, I343 a0 4 = v := ⟨_, rfl⟩
                      have b391 := iv7_4 hS351.1 ta0 c390
                      rw [c390] at p368
                      obtain ⟨v392, c393⟩ : ∃ v, I343 a0 3 = v := ⟨_, rfl⟩
                      have b394 := iv7_3 hS351.1 ta0 c393
                      rw [c393] at p369
                      obtain ⟨y395, c396⟩ : ∃ v, L345 a0 5 = v := ⟨_, rfl⟩
                      rw [c396] at p370
                      obtain ⟨v397, c398⟩ : ∃ v, I343 a0 6 = v := ⟨_, rfl⟩
                      rw [c398] at p371
                      replace hF := hF.neg (by omega)
                      replace hP := hP.neg (by omega)
                      replace hF := hF.neg (by omega)
                      replace hP := hP.neg (by omega)
                      refine q_if_ne 127 dX7_readTurner_122 (by decide) (fun h399 => ?_) (fun h399 => ?_)
                      · skip
                        refine tr_aload_n dX7_readTurner_127 rfl ?_
                        refine tr_aload_n dX7_readTurner_128 rfl ?_
                        refine q_getI dX7_readTurner_129 fl7_109 (kR7 hS351.1 ta0) c384 ?_
                        refine q_putI dX7_readTurner_132 fl7_258 (kR4 hS351.1 ta88) (Or.inl rfl) hS351 ta88 (iokF rfl) rfl (by decide +kernel) ?_
                        intro I400 hS401 e402 f403
                        have c404 : I400 a23 9 = v37 := (f403 _ _ (fun q => absurd q.2 (by decide))).trans c352
                        have c405 : I400 a88 0 = v125 := (f403 _ _ (fun q => absurd q.2 (by decide))).trans c353
                        have c406 : I400 a0 8 = v245 := (f403 _ _ (fun q => absurd q.2 (by decide))).trans c354
                        have c407 : I400 a0 9 = v248 := (f403 _ _ (fun q => absurd q.2 (by decide))).trans c355
                        have c408 : I400 a88 1 = v245 := (f403 _ _ (fun q => absurd q.2 (by decide))).trans c356
                        have c409 : I400 a88 2 = v248 := (f403 _ _ (fun q => absurd q.2 (by decide))).trans c357
                        have c410 : I400 a0 15 = v381 := (f403 _ _ (fun q => absurd q.2 (by decide))).trans c382
                        have c411 : I400 a0 7 = v383 := (f403 _ _ (fun q => absurd q.2 (by decide))).trans c384
                        have c412 : I400 a0 2 = v386 := (f403 _ _ (fun q => absurd q.2 (by decide))).trans c387
                        have c413 : I400 a0 4 = v389 := (f403 _ _ (fun q => absurd q.2 (by decide))).trans c390
                        have c414 : I400 a0 3 = v392 := (f403 _ _ (fun q => by have z := ta0; rw [q.1, ta88] at z; exact absurd z (by decide))).trans c393
                        have c415 : I400 a0 6 = v397 := (f403 _ _ (fun q => absurd q.2 (by decide))).trans c398
                        refine tr_aload_n dX7_readTurner_135 rfl ?_
                        refine tr_ldcwS dX7_readTurner_136 ld7_260 ?_
                        refine q_callVi hE (M' := mX7_takeWord) (as := [_]) dX7_readTurner_139 lk7_126 inX7_takeWord seX7_takeWord myX7_takeWord (by decide) ⟨by decide, by decide⟩ rfl (kR7 hS401.1 ta0) (Nat.le_of_ble_eq_true rfl) rfl rfl (by decide) (by decide) (fk_X7_takeWord hS401.1 (gB) ((tkN gB (tkN gB (tkN gB (tkN gB (tkN gB (tkN gB (tkN gB (tkN gB gs))))))))) ta0 (by decide) (TxA.kp hT hS401 ta0 rfl rfl rfl (by decide +kernel) (by decide +kernel)) (by (try rw [c412]); first | done | omega) (by (try rw [c413]); first | done | omega) (by (try rw [c414]); first | done | omega) (by (try rw [c396]); first | done | assumption) (by (try rw [c415]); first | done | assumption) (by (try rw [((hS401.cell ta0 (by decide +kernel)).trans c20)]); first | done | omega)) ?_
                        rintro v421 cn' K' N' I416 R417 L418 ⟨rfl, rfl, rfl, rfl, g419, gl420, h422, dj423, -⟩
                        (try rw [pk_24] at dj423)
                        have hS424 := hS401.tr g419 (by decide +kernel) (by decide +kernel)
                        have c425 : I416 a23 9 = v37 := (g419.cell ta23 (by decide +kernel)).trans c404
                        have c426 : I416 a88 0 = v125 := (g419.cell ta88 (by decide +kernel)).trans c405
                        have c427 : I416 a0 8 = v245 := (g419.cell ta0 (by decide +kernel)).trans c406
                        have c428 : I416 a0 9 = v248 := (g419.cell ta0 (by decide +kernel)).trans c407
                        have c429 : I416 a88 1 = v245 := (g419.cell ta88 (by decide +kernel)).trans c408
                        have c430 : I416 a88 2 = v248 := (g419.cell ta88 (by decide +kernel)).trans c409
                        have c431 : I416 a0 7 = v383 := (g419.cell ta0 (by decide +kernel)).trans c411
                        have c432 : I416 a88 3 = v383 := (g419.cell ta88 (by decide +kernel)).trans e402
                        have hL433 := hL358.tr gl420 (by decide +kernel)
                        have c434 : L418 a77 v37.toNatClampNeg = y13 := (gl420.cell ta77 (wm_no (by decide +kernel))).trans c359
                        have hN435 : NmC L418 R0 a0 gQ := NmC.kp hN360 gl420 hS424.1 ta0 (by decide +kernel) (by decide +kernel)
                        rcases dj423 with ⟨p436, p437, p438, p439, p440, p441, p442, p443, p444, -⟩ | ⟨p445, p446, p447, p448, -⟩
                        · skip
                          obtain ⟨v449, c450⟩ : ∃ v, I416 a0 15 = v := ⟨_, rfl⟩
                          rw [c450] at p437
                          rw [c410] at p437
                          obtain ⟨v451, c452⟩ : ∃ v, I416 a0 2 = v := ⟨_, rfl⟩
                          have b453 := iv7_2 hS424.1 ta0 c452
                          rw [c452] at p440
                          obtain ⟨v454, c455⟩ : ∃ v, I416 a0 4 = v := ⟨_, rfl⟩
                          have b456 := iv7_4 hS424.1 ta0 c455
                          rw [c455] at p441
                          obtain ⟨v457, c458⟩ : ∃ v, I416 a0 3 = v := ⟨_, rfl⟩
                          have b459 := iv7_3 hS424.1 ta0 c458
                          rw [c458] at p442
                          obtain ⟨y460, c461⟩ : ∃ v, L418 a0 5 = v := ⟨_, rfl⟩
                          rw [c461] at p443
                          obtain ⟨v462, c463⟩ : ∃ v, I416 a0 6 = v := ⟨_, rfl⟩
                          rw [c463] at p444
                          replace hF := hF.neg (by omega)
                          replace hP := hP.neg (by omega)
                          refine q_if_eq 155 dX7_readTurner_142 (by decide) (fun h464 => ?_) (fun h464 => ?_)
                          · skip
                            exfalso; omega
                          · skip
                            refine tr_aload_n dX7_readTurner_145 rfl ?_
                            refine q_iconst dX7_readTurner_146 (by decide) ?_
                            intro v465 h466
                            refine q_bipush dX7_readTurner_147 (by decide +kernel) ?_
                            intro v467 h468
                            refine q_callVi hE (M' := mX7_takeWhole) (as := [_, _]) dX7_readTurner_149 lk7_115 inX7_takeWhole seX7_takeWhole myX7_takeWhole (by decide) ⟨by decide, by decide⟩ rfl (kR7 hS424.1 ta0) (Nat.le_of_ble_eq_true rfl) rfl rfl (by decide) (by decide) (fk_X7_takeWhole hS424.1 (gB) ((tkN gB (tkN gB (tkN gB (tkN gB (tkN gB (tkN gB (tkN gB (tkN gB (tkN gB gs)))))))))) ta0 (by omega) (by omega) (TxA.kp hT hS424 ta0 rfl rfl rfl (by decide +kernel) (by decide +kernel)) (by (try rw [c452]); first | done | omega) (by (try rw [c455]); first | done | omega) (by (try rw [c458]); first | done | omega) (by (try rw [c461]); first | done | assumption) (by (try rw [c463]); first | done | assumption) (by (try rw [((hS424.cell ta0 (by decide +kernel)).trans c20)]); first | done | omega)) ?_
                            rintro v474 cn' K' N' I469 R470 L471 ⟨rfl, rfl, rfl, rfl, g472, gl473, h475, dj476, -⟩
                            have hS477 := hS424.tr g472 (by decide +kernel) (by decide +kernel)
                            have c478 : I469 a23 9 = v37 := (g472.cell ta23 (by decide +kernel)).trans c425
                            have c479 : I469 a88 0 = v125 := (g472.cell ta88 (by decide +kernel)).trans c426
                            have c480 : I469 a0 8 = v245 := (g472.cell ta0 (by decide +kernel)).trans c427
                            have c481 : I469 a0 9 = v248 := (g472.cell ta0 (by decide +kernel)).trans c428
                            have c482 : I469 a88 1 = v245 := (g472.cell ta88 (by decide +kernel)).trans c429
                            have c483 : I469 a88 2 = v248 := (g472.cell ta88 (by decide +kernel)).trans c430
                            have c484 : I469 a88 3 = v383 := (g472.cell ta88 (by decide +kernel)).trans c432
                            have hL485 := hL433.tr gl473 (by decide +kernel)
                            have c486 : L471 a77 v37.toNatClampNeg = y13 := (gl473.cell ta77 (wm_no (by decide +kernel))).trans c434
                            have hN487 : NmC L471 R0 a0 gQ := NmC.kp hN435 gl473 hS477.1 ta0 (by decide +kernel) (by decide +kernel)
                            rcases dj476 with ⟨p488, p489, p490, p491, p492, p493, p494, p495, p496, p497, p498, -⟩ | ⟨p499, p500, p501, p502, -⟩ | ⟨p503, p504, p505, p506, p507, -⟩
                            · skip
                              obtain ⟨v508, c509⟩ : ∃ v, I469 a0 15 = v := ⟨_, rfl⟩
                              rw [c509] at p489
                              rw [c450] at p489
                              obtain ⟨v510, c511⟩ : ∃ v, I469 a0 7 = v := ⟨_, rfl⟩
                              have b512 := iv7_7 hS477.1 ta0 c511
                              rw [c511] at p493
                              obtain ⟨v513, c514⟩ : ∃ v, I469 a0 2 = v := ⟨_, rfl⟩
                              have b515 := iv7_2 hS477.1 ta0 c514
                              rw [c514] at p494
                              obtain ⟨v516, c517⟩ : ∃ v, I469 a0 4 = v := ⟨_, rfl⟩
                              have b518 := iv7_4 hS477.1 ta0 c517
                              rw [c517] at p495
                              obtain ⟨v519, c520⟩ : ∃ v, I469 a0 3 = v := ⟨_, rfl⟩
                              have b521 := iv7_3 hS477.1 ta0 c520
                              rw [c520] at p496
                              obtain ⟨y522, c523⟩ : ∃ v, L471 a0 5 = v := ⟨_, rfl⟩
                              rw [c523] at p497
                              obtain ⟨v524, c525⟩ : ∃ v, I469 a0 6 = v := ⟨_, rfl⟩
                              rw [c525] at p498
                              replace hF := hF.neg (by omega)
                              replace hP := hP.neg (by omega)
                              replace hF := hF.neg (by omega)
                              replace hP := hP.neg (by omega)
                              refine q_if_ne 157 dX7_readTurner_152 (by decide) (fun h526 => ?_) (fun h526 => ?_)
                              · skip
                                refine tr_aload_n dX7_readTurner_157 rfl ?_
                                refine tr_aload_n dX7_readTurner_158 rfl ?_
                                refine q_getI dX7_readTurner_159 fl7_109 (kR7 hS477.1 ta0) c511 ?_
                                refine q_putI dX7_readTurner_162 fl7_262 (kR4 hS477.1 ta88) (Or.inl rfl) hS477 ta88 (iokF rfl) rfl (by decide +kernel) ?_
                                intro I527 hS528 e529 f530
                                have c531 : I527 a23 9 = v37 := (f530 _ _ (fun q => absurd q.2 (by decide))).trans c478
                                have c532 : I527 a88 0 = v125 := (f530 _ _ (fun q => absurd q.2 (by decide))).trans c479
                                have c533 : I527 a0 8 = v245 := (f530 _ _ (fun q => absurd q.2 (by decide))).trans c480
                                have c534 : I527 a0 9 = v248 := (f530 _ _ (fun q => absurd q.2 (by decide))).trans c481
                                have c535 : I527 a88 1 = v245 := (f530 _ _ (fun q => absurd q.2 (by decide))).trans c482
                                have c536 : I527 a88 2 = v248 := (f530 _ _ (fun q => absurd q.2 (by decide))).trans c483
                                have c537 : I527 a88 3 = v383 := (f530 _ _ (fun q => absurd q.2 (by decide))).trans c484
                                have c538 : I527 a0 15 = v508 := (f530 _ _ (fun q => absurd q.2 (by decide))).trans c509
                                have c539 : I527 a0 7 = v510 := (f530 _ _ (fun q => absurd q.2 (by decide))).trans c511
                                have c540 : I527 a0 2 = v513 := (f530 _ _ (fun q => absurd q.2 (by decide))).trans c514
                                have c541 : I527 a0 4 = v516 := (f530 _ _ (fun q => by have z := ta0; rw [q.1, ta88] at z; exact absurd z (by decide))).trans c517
                                have c542 : I527 a0 3 = v519 := (f530 _ _ (fun q => absurd q.2 (by decide))).trans c520
                                have c543 : I527 a0 6 = v524 := (f530 _ _ (fun q => absurd q.2 (by decide))).trans c525
                                refine tr_aload_n dX7_readTurner_165 rfl ?_
                                refine tr_getR dX7_readTurner_166 fl7_22 (kR7 hS528.1 ta0) d24 ?_
                                refine tr_dup dX7_readTurner_169 rfl ?_
                                refine q_getI dX7_readTurner_170 fl7_156 (kR2 hS528.1 ta23) c531 ?_
                                refine q_iconst dX7_readTurner_173 (by decide) ?_
                                intro v544 h545
                                refine q_iaddE dX7_readTurner_174 (by intros; omega) ?_
                                intro v546 h547
                                refine q_putI dX7_readTurner_175 fl7_156 (kR2 hS528.1 ta23) (Or.inl rfl) hS528 ta23 (by show (0 : Int) ≤ v546.toInt ∧ v546.toInt ≤ (5 : Int); omega) rfl (by decide +kernel) ?_
                                intro I548 hS549 e550 f551
                                have c552 : I548 a88 0 = v125 := (f551 _ _ (fun q => absurd q.2 (by decide))).trans c532
                                have c553 : I548 a0 8 = v245 := (f551 _ _ (fun q => absurd q.2 (by decide))).trans c533
                                have c554 : I548 a0 9 = v248 := (f551 _ _ (fun q => by have z := ta0; rw [q.1, ta23] at z; exact absurd z (by decide))).trans c534
                                have c555 : I548 a88 1 = v245 := (f551 _ _ (fun q => absurd q.2 (by decide))).trans c535
                                have c556 : I548 a88 2 = v248 := (f551 _ _ (fun q => absurd q.2 (by decide))).trans c536
                                have c557 : I548 a88 3 = v383 := (f551 _ _ (fun q => absurd q.2 (by decide))).trans c537
                                have c558 : I548 a0 15 = v508 := (f551 _ _ (fun q => absurd q.2 (by decide))).trans c538
                                have c559 : I548 a0 7 = v510 := (f551 _ _ (fun q => absurd q.2 (by decide))).trans c539
                                have c560 : I548 a0 2 = v513 := (f551 _ _ (fun q => absurd q.2 (by decide))).trans c540
                                have c561 : I548 a0 4 = v516 := (f551 _ _ (fun q => absurd q.2 (by decide))).trans c541
                                have c562 : I548 a0 3 = v519 := (f551 _ _ (fun q => absurd q.2 (by decide))).trans c542
                                have c563 : I548 a0 6 = v524 := (f551 _ _ (fun q => absurd q.2 (by decide))).trans c543
                                have c564 : I548 a88 4 = v510 := (f551 _ _ (fun q => absurd q.2 (by decide))).trans e529
                                refine tr_aload_n dX7_readTurner_178 rfl ?_
                                refine tr_ldcS dX7_readTurner_179 ld7_204 ?_
                                refine q_callVi hE (M' := mX7_takeWord) (as := [_]) dX7_readTurner_181 lk7_126 inX7_takeWord seX7_takeWord myX7_takeWord (by decide) ⟨by decide, by decide⟩ rfl (kR7 hS549.1 ta0) (Nat.le_of_ble_eq_true rfl) rfl rfl (by decide) (by decide) (fk_X7_takeWord hS549.1 (gB) ((tkN gB (tkN gB (tkN gB (tkN gB (tkN gB (tkN gB (tkN gB (tkN gB (tkN gB (tkN gB gs))))))))))) ta0 (by decide) (TxA.kp hT hS549 ta0 rfl rfl rfl (by decide +kernel) (by decide +kernel)) (by (try rw [c560]); first | done | omega) (by (try rw [c561]); first | done | omega) (by (try rw [c562]); first | done | omega) (by (try rw [c523]); first | done | assumption) (by (try rw [c563]); first | done | assumption) (by (try rw [((hS549.cell ta0 (by decide +kernel)).trans c20)]); first | done | omega)) ?_
                                rintro v570 cn' K' N' I565 R566 L567 ⟨rfl, rfl, rfl, rfl, g568, gl569, h571, dj572, -⟩
                                (try rw [pk_16] at dj572)
                                have hS573 := hS549.tr g568 (by decide +kernel) (by decide +kernel)
                                have c574 : I565 a88 0 = v125 := (g568.cell ta88 (by decide +kernel)).trans c552
                                have c575 : I565 a0 8 = v245 := (g568.cell ta0 (by decide +kernel)).trans c553
                                have c576 : I565 a0 9 = v248 := (g568.cell ta0 (by decide +kernel)).trans c554
                                have c577 : I565 a88 1 = v245 := (g568.cell ta88 (by decide +kernel)).trans c555
                                have c578 : I565 a88 2 = v248 := (g568.cell ta88 (by decide +kernel)).trans c556
                                have c579 : I565 a88 3 = v383 := (g568.cell ta88 (by decide +kernel)).trans c557
                                have c580 : I565 a0 7 = v510 := (g568.cell ta0 (by decide +kernel)).trans c559
                                have c581 : I565 a88 4 = v510 := (g568.cell ta88 (by decide +kernel)).trans c564
                                have c582 : I565 a23 9 = v546 := (g568.cell ta23 (by decide +kernel)).trans e550
                                have hL583 := hL485.tr gl569 (by decide +kernel)
                                have c584 : L567 a77 v37.toNatClampNeg = y13 := (gl569.cell ta77 (wm_no (by decide +kernel))).trans c486
                                have hN585 : NmC L567 R0 a0 gQ := NmC.kp hN487 gl569 hS573.1 ta0 (by decide +kernel) (by decide +kernel)
                                rcases dj572 with ⟨p586, p587, p588, p589, p590, p591, p592, p593, p594, -⟩ | ⟨p595, p596, p597, p598, -⟩
                                · skip
                                  obtain ⟨v599, c600⟩ : ∃ v, I565 a0 15 = v := ⟨_, rfl⟩
                                  rw [c600] at p587
                                  rw [c558] at p587
                                  obtain ⟨v601, c602⟩ : ∃ v, I565 a0 2 = v := ⟨_, rfl⟩
                                  have b603 := iv7_2 hS573.1 ta0 c602
                                  rw [c602] at p590
                                  obtain ⟨v604, c605⟩ : ∃ v, I565 a0 4 = v := ⟨_, rfl⟩
                                  have b606 := iv7_4 hS573.1 ta0 c605
                                  rw [c605] at p591
                                  obtain ⟨v607, c608⟩ : ∃ v, I565 a0 3 = v := ⟨_, rfl⟩
                                  have b609 := iv7_3 hS573.1 ta0 c608
                                  rw [c608] at p592
                                  obtain ⟨y610, c611⟩ : ∃ v, L567 a0 5 = v := ⟨_, rfl⟩
                                  rw [c611] at p593
                                  obtain ⟨v612, c613⟩ : ∃ v, I565 a0 6 = v := ⟨_, rfl⟩
                                  rw [c613] at p594
                                  replace hF := hF.neg (by omega)
                                  replace hP := hP.neg (by omega)
                                  refine q_if_eq 199 dX7_readTurner_184 (by decide) (fun h614 => ?_) (fun h614 => ?_)
                                  · skip
                                    exfalso; omega
                                  · skip
                                    refine tr_aload_n dX7_readTurner_187 rfl ?_
                                    refine tr_aload_n dX7_readTurner_188 rfl ?_
                                    refine q_callVi hE (M' := mX7_readHuts) (as := [_]) dX7_readTurner_189 lk7_264 inX7_readHuts seX7_readHuts myX7_readHuts (by decide) ⟨by decide, by decide⟩ rfl (kR7 hS573.1 ta0) (Nat.le_of_ble_eq_true rfl) rfl rfl (by decide) (by decide) (fk_X7_readHuts hS573.1 (gB) ((tkN gB (tkN gB (tkN gB (tkN gB (tkN gB (tkN gB (tkN gB (tkN gB (tkN gB (tkN gB (tkN gB gs)))))))))))) (gQ) ta0 ta88 (TxA.kp hT hS573 ta0 rfl rfl rfl (by decide +kernel) (by decide +kernel)) (by (try rw [c602]); first | done | omega) (by (try rw [c605]); first | done | omega) (by (try rw [c608]); first | done | omega) (by (try rw [c611]); first | done | assumption) (by (try rw [c613]); first | done | assumption) (by (try rw [((hS573.cell ta0 (by decide +kernel)).trans c20)]); first | done | omega) (fun q0 z0 => by obtain rfl := Option.some.inj ((d24).symm.trans z0); (try rw [((hS573.cell ta23 (by decide +kernel)).trans c30)]); first | done | omega)) ?_
                                    rintro v620 cn' K' N' I615 R616 L617 ⟨rfl, rfl, rfl, rfl, g618, gl619, h621, dj622, -⟩
                                    have hS623 := hS573.tr g618 (by decide +kernel) (by decide +kernel)
                                    have c624 : I615 a88 0 = v125 := (g618.cell ta88 (by decide +kernel)).trans c574
                                    have c625 : I615 a0 8 = v245 := (g618.cell ta0 (by decide +kernel)).trans c575
                                    have c626 : I615 a0 9 = v248 := (g618.cell ta0 (by decide +kernel)).trans c576
                                    have c627 : I615 a88 1 = v245 := (g618.cell ta88 (by decide +kernel)).trans c577
                                    have c628 : I615 a88 2 = v248 := (g618.cell ta88 (by decide +kernel)).trans c578
                                    have c629 : I615 a88 3 = v383 := (g618.cell ta88 (by decide +kernel)).trans c579
                                    have c630 : I615 a0 7 = v510 := (g618.cell ta0 (by decide +kernel)).trans c580
                                    have c631 : I615 a88 4 = v510 := (g618.cell ta88 (by decide +kernel)).trans c581
                                    have c632 : I615 a23 9 = v546 := (g618.cell ta23 (by decide +kernel)).trans c582
                                    have hL633 := hL583.tr gl619 (by decide +kernel)
                                    have c634 : L617 a77 v37.toNatClampNeg = y13 := (gl619.cell ta77 (wm_no (by decide +kernel))).trans c584
                                    have hN635 : NmC L617 R0 a0 gQ := NmC.kp hN585 gl619 hS623.1 ta0 (by decide +kernel) (by decide +kernel)
                                    rcases dj622 with ⟨p636, p637, p638, p639, p640, p641, p642, p643, -⟩ | ⟨p644, p645, p646, p647, -⟩
                                    · skip
                                      obtain ⟨v648, c649⟩ : ∃ v, I615 a0 15 = v := ⟨_, rfl⟩
                                      rw [c649] at p637
                                      rw [c600] at p637
                                      obtain ⟨v650, c651⟩ : ∃ v, I615 a0 2 = v := ⟨_, rfl⟩
                                      have b652 := iv7_2 hS623.1 ta0 c651
                                      rw [c651] at p639
                                      obtain ⟨v653, c654⟩ : ∃ v, I615 a0 4 = v := ⟨_, rfl⟩
                                      have b655 := iv7_4 hS623.1 ta0 c654
                                      rw [c654] at p640
                                      obtain ⟨v656, c657⟩ : ∃ v, I615 a0 3 = v := ⟨_, rfl⟩
                                      have b658 := iv7_3 hS623.1 ta0 c657
                                      rw [c657] at p641
                                      obtain ⟨y659, c660⟩ : ∃ v, L617 a0 5 = v := ⟨_, rfl⟩
                                      rw [c660] at p642
                                      obtain ⟨v661, c662⟩ : ∃ v, I615 a0 6 = v := ⟨_, rfl⟩
                                      rw [c662] at p643
                                      refine q_if_eq 199 dX7_readTurner_192 (by decide) (fun h663 => ?_) (fun h663 => ?_)
                                      · skip
                                        exfalso; omega
                                      · skip
                                        refine q_iconst dX7_readTurner_195 (by decide) ?_
                                        intro v664 h665
                                        refine tr_goto 200 dX7_readTurner_196 (by decide) ?_
                                        have eF := hF.eq
                                        have eP := hP.eq
                                        have es666 : tuS gB gQ gs = (huS gB gQ 901 0 (tkN gB (tkN gB (tkN gB (tkN gB (tkN gB (tkN gB (tkN gB (tkN gB (tkN gB (tkN gB (tkN gB gs)))))))))))) := by simp only [tuS, ↓reduceIte]; repeat' (first | split | omega)
                                        obtain ⟨v667, c668⟩ : ∃ v, I615 a0 16 = v := ⟨_, rfl⟩
                                        exact tr_zret hZ dX7_readTurner_200 rfl (ti_b01 (by omega) (by omega)) (by decide) (by decide) ⟨v664, rfl, rfl, rfl, rfl, rfl, hS623, hL633, (by omega), (Or.inl ⟨(by (try rw [es666]); first | done | omega), (by (try rw [es666]); (try rw [c649]); (try rw [c44]); first | done | omega), (by (try rw [es666]); first | done | omega), (fun q0 z0 => by obtain rfl := Option.some.inj ((d24).symm.trans z0); (try rw [es666]); (try rw [c632]); first | done | omega), (by (try rw [es666]); (try rw [c651]); first | done | omega), (by (try rw [es666]); (try rw [c654]); first | done | omega), (by (try rw [es666]); (try rw [c657]); first | done | omega), (by (try rw [es666]); (try rw [c660]); first | done | assumption), (by (try rw [es666]); (try rw [c662]); first | done | assumption), (NmC.up4 hN635 d78 (by rw [c634]; omega) (by have q := ti_nat (i := v37) (by omega); omega) (by omega) (by omega)), trivial⟩), trivial⟩
                                    · skip
                                      obtain ⟨v669, c670⟩ : ∃ v, I615 a0 15 = v := ⟨_, rfl⟩
                                      rw [c670] at p646
                                      obtain ⟨v671, c672⟩ : ∃ v, I615 a0 16 = v := ⟨_, rfl⟩
                                      rw [c672] at p647
                                      refine q_if_eq 199 dX7_readTurner_192 (by decide) (fun h673 => ?_) (fun h673 => ?_)
                                      · skip
                                        refine q_iconst dX7_readTurner_199 (by decide) ?_
                                        intro v674 h675
                                        have eF := hF.eq
                                        have eP := hP.eq
                                        obtain ⟨v676, c677⟩ : ∃ v, I615 a0 2 = v := ⟨_, rfl⟩
                                        have b678 := iv7_2 hS623.1 ta0 c677
                                        obtain ⟨v679, c680⟩ : ∃ v, I615 a0 4 = v := ⟨_, rfl⟩
                                        have b681 := iv7_4 hS623.1 ta0 c680
                                        obtain ⟨v682, c683⟩ : ∃ v, I615 a0 3 = v := ⟨_, rfl⟩
                                        have b684 := iv7_3 hS623.1 ta0 c683
                                        obtain ⟨y685, c686⟩ : ∃ v, L617 a0 5 = v := ⟨_, rfl⟩
                                        obtain ⟨v687, c688⟩ : ∃ v, I615 a0 6 = v := ⟨_, rfl⟩
                                        exact tr_zret hZ dX7_readTurner_200 rfl (ti_b01 (by omega) (by omega)) (by decide) (by decide) ⟨v674, rfl, rfl, rfl, rfl, rfl, hS623, hL633, (by omega), (Or.inr (⟨(by first | done | omega), (by first | done | omega), (by (try rw [c670]); first | done | omega), (by (try rw [c672]); first | done | omega), trivial⟩)), trivial⟩
                                      · skip
                                        exfalso; omega
                                · skip
                                  obtain ⟨v689, c690⟩ : ∃ v, I565 a0 15 = v := ⟨_, rfl⟩
                                  rw [c690] at p597
                                  obtain ⟨v691, c692⟩ : ∃ v, I565 a0 16 = v := ⟨_, rfl⟩
                                  rw [c692] at p598
                                  replace hF := hF.pos (by omega)
                                  replace hP := hP.pos (by omega)
                                  refine q_if_eq 199 dX7_readTurner_184 (by decide) (fun h693 => ?_) (fun h693 => ?_)
                                  · skip
                                    refine q_iconst dX7_readTurner_199 (by decide) ?_
                                    intro v694 h695
                                    have eF := hF.eq
                                    have eP := hP.eq
                                    obtain ⟨v696, c697⟩ : ∃ v, I565 a0 2 = v := ⟨_, rfl⟩
                                    have b698 := iv7_2 hS573.1 ta0 c697
                                    obtain ⟨v699, c700⟩ : ∃ v, I565 a0 4 = v := ⟨_, rfl⟩
                                    have b701 := iv7_4 hS573.1 ta0 c700
                                    obtain ⟨v702, c703⟩ : ∃ v, I565 a0 3 = v := ⟨_, rfl⟩
                                    have b704 := iv7_3 hS573.1 ta0 c703
                                    obtain ⟨y705, c706⟩ : ∃ v, L567 a0 5 = v := ⟨_, rfl⟩
                                    obtain ⟨v707, c708⟩ : ∃ v, I565 a0 6 = v := ⟨_, rfl⟩
                                    exact tr_zret hZ dX7_readTurner_200 rfl (ti_b01 (by omega) (by omega)) (by decide) (by decide) ⟨v694, rfl, rfl, rfl, rfl, rfl, hS573, hL583, (by omega), (Or.inr (⟨(by first | done | omega), (by first | done | omega), (by (try rw [c690]); first | done | omega), (by (try rw [c692]); first | done | omega), trivial⟩)), trivial⟩
                                  · skip
                                    exfalso; omega
                              · skip
                                exfalso; omega
                            · skip
                              obtain ⟨v709, c710⟩ : ∃ v, I469 a0 15 = v := ⟨_, rfl⟩
                              rw [c710] at p501
                              obtain ⟨v711, c712⟩ : ∃ v, I469 a0 16 = v := ⟨_, rfl⟩
                              rw [c712] at p502
                              replace hF := hF.pos (by omega)
                              replace hP := hP.pos (by omega)
                              refine q_if_ne 157 dX7_readTurner_152 (by decide) (fun h713 => ?_) (fun h713 => ?_)
                              · skip
                                exfalso; omega
                              · skip
                                refine q_iconst dX7_readTurner_155 (by decide) ?_
                                intro v714 h715
                                have eF := hF.eq
                                have eP := hP.eq
                                obtain ⟨v716, c717⟩ : ∃ v, I469 a0 2 = v := ⟨_, rfl⟩
                                have b718 := iv7_2 hS477.1 ta0 c717
                                obtain ⟨v719, c720⟩ : ∃ v, I469 a0 4 = v := ⟨_, rfl⟩
                                have b721 := iv7_4 hS477.1 ta0 c720
                                obtain ⟨v722, c723⟩ : ∃ v, I469 a0 3 = v := ⟨_, rfl⟩
                                have b724 := iv7_3 hS477.1 ta0 c723
                                obtain ⟨y725, c726⟩ : ∃ v, L471 a0 5 = v := ⟨_, rfl⟩
                                obtain ⟨v727, c728⟩ : ∃ v, I469 a0 6 = v := ⟨_, rfl⟩
                                exact tr_zret hZ dX7_readTurner_156 rfl (ti_b01 (by omega) (by omega)) (by decide) (by decide) ⟨v714, rfl, rfl, rfl, rfl, rfl, hS477, hL485, (by omega), (Or.inr (⟨(by first | done | omega), (by first | done | omega), (by (try rw [c710]); first | done | omega), (by (try rw [c712]); first | done | omega), trivial⟩)), trivial⟩
                            · skip
                              obtain ⟨v729, c730⟩ : ∃ v, I469 a0 15 = v := ⟨_, rfl⟩
                              rw [c730] at p506
                              obtain ⟨v731, c732⟩ : ∃ v, I469 a0 16 = v := ⟨_, rfl⟩
                              rw [c732] at p507
                              replace hF := hF.neg (by omega)
                              replace hP := hP.neg (by omega)
                              replace hF := hF.pos (by omega)
                              replace hP := hP.pos (by omega)
                              refine q_if_ne 157 dX7_readTurner_152 (by decide) (fun h733 => ?_) (fun h733 => ?_)
                              · skip
                                exfalso; omega
                              · skip
                                refine q_iconst dX7_readTurner_155 (by decide) ?_
                                intro v734 h735
                                have eF := hF.eq
                                have eP := hP.eq
                                obtain ⟨v736, c737⟩ : ∃ v, I469 a0 2 = v := ⟨_, rfl⟩
                                have b738 := iv7_2 hS477.1 ta0 c737
                                obtain ⟨v739, c740⟩ : ∃ v, I469 a0 4 = v := ⟨_, rfl⟩
                                have b741 := iv7_4 hS477.1 ta0 c740
                                obtain ⟨v742, c743⟩ : ∃ v, I469 a0 3 = v := ⟨_, rfl⟩
                                have b744 := iv7_3 hS477.1 ta0 c743
                                obtain ⟨y745, c746⟩ : ∃ v, L471 a0 5 = v := ⟨_, rfl⟩
                                obtain ⟨v747, c748⟩ : ∃ v, I469 a0 6 = v := ⟨_, rfl⟩
                                exact tr_zret hZ dX7_readTurner_156 rfl (ti_b01 (by omega) (by omega)) (by decide) (by decide) ⟨v734, rfl, rfl, rfl, rfl, rfl, hS477, hL485, (by omega), (Or.inr (⟨(by first | done | omega), (by first | done | omega), (by (try rw [c730]); first | done | omega), (by (try rw [c732]); first | done | omega), trivial⟩)), trivial⟩
                        · skip
                          obtain ⟨v749, c750⟩ : ∃ v, I416 a0 15 = v := ⟨_, rfl⟩
                          rw [c750] at p447
                          obtain ⟨v751, c752⟩ : ∃ v, I416 a0 16 = v := ⟨_, rfl⟩
                          rw [c752] at p448
                          replace hF := hF.pos (by omega)
                          replace hP := hP.pos (by omega)
                          refine q_if_eq 155 dX7_readTurner_142 (by decide) (fun h753 => ?_) (fun h753 => ?_)
                          · skip
                            refine q_iconst dX7_readTurner_155 (by decide) ?_
                            intro v754 h755
                            have eF := hF.eq
                            have eP := hP.eq
                            obtain ⟨v756, c757⟩ : ∃ v, I416 a0 2 = v := ⟨_, rfl⟩
                            have b758 := iv7_2 hS424.1 ta0 c757
                            obtain ⟨v759, c760⟩ : ∃ v, I416 a0 4 = v := ⟨_, rfl⟩
                            have b761 := iv7_4 hS424.1 ta0 c760
                            obtain ⟨v762, c763⟩ : ∃ v, I416 a0 3 = v := ⟨_, rfl⟩
                            have b764 := iv7_3 hS424.1 ta0 c763
                            obtain ⟨y765, c766⟩ : ∃ v, L418 a0 5 = v := ⟨_, rfl⟩
                            obtain ⟨v767, c768⟩ : ∃ v, I416 a0 6 = v := ⟨_, rfl⟩
                            exact tr_zret hZ dX7_readTurner_156 rfl (ti_b01 (by omega) (by omega)) (by decide) (by decide) ⟨v754, rfl, rfl, rfl, rfl, rfl, hS424, hL433, (by omega), (Or.inr (⟨(by first | done | omega), (by first | done | omega), (by (try rw [c750]); first | done | omega), (by (try rw [c752]); first | done | omega), trivial⟩)), trivial⟩
                          · skip
                            exfalso; omega
                      · skip
                        exfalso; omega
                    · skip
                      obtain ⟨v769, c770⟩ : ∃ v, I343 a0 15 = v := ⟨_, rfl⟩
                      rw [c770] at p374
                      obtain ⟨v771, c772⟩ : ∃ v, I343 a0 16 = v := ⟨_, rfl⟩
                      rw [c772] at p375
                      replace hF := hF.pos (by omega)
                      replace hP := hP.pos (by omega)
                      refine q_if_ne 127 dX7_readTurner_122 (by decide) (fun h773 => ?_) (fun h773 => ?_)
                      · skip
                        exfalso; omega
                      · skip
                        refine q_iconst dX7_readTurner_125 (by decide) ?_
                        intro v774 h775
                        have eF := hF.eq
                        have eP := hP.eq
                        obtain ⟨v776, c777⟩ : ∃ v, I343 a0 2 = v := ⟨_, rfl⟩
                        have b778 := iv7_2 hS351.1 ta0 c777
                        obtain ⟨v779, c780⟩ : ∃ v, I343 a0 4 = v := ⟨_, rfl⟩
                        have b781 := iv7_4 hS351.1 ta0 c780
                        obtain ⟨v782, c783⟩ : ∃ v, I343 a0 3 = v := ⟨_, rfl⟩
                        have b784 := iv7_3 hS351.1 ta0 c783
                        obtain ⟨y785, c786⟩ : ∃ v, L345 a0 5 = v := ⟨_, rfl⟩
                        obtain ⟨v787, c788⟩ : ∃ v, I343 a0 6 = v := ⟨_, rfl⟩
                        exact tr_zret hZ dX7_readTurner_126 rfl (ti_b01 (by omega) (by omega)) (by decide) (by decide) ⟨v774, rfl, rfl, rfl, rfl, rfl, hS351, hL358, (by omega), (Or.inr (⟨(by first | done | omega), (by first | done | omega), (by (try rw [c770]); first | done | omega), (by (try rw [c772]); first | done | omega), trivial⟩)), trivial⟩
                    · skip
                      obtain ⟨v789, c790⟩ : ∃ v, I343 a0 15 = v := ⟨_, rfl⟩
                      rw [c790] at p379
                      obtain ⟨v791, c792⟩ : ∃ v, I343 a0 16 = v := ⟨_, rfl⟩
                      rw [c792] at p380
                      replace hF := hF.neg (by omega)
                      replace hP := hP.neg (by omega)
                      replace hF := hF.pos (by omega)
                      replace hP := hP.pos (by omega)
                      refine q_if_ne 127 dX7_readTurner_122 (by decide) (fun h793 => ?_) (fun h793 => ?_)
                      · skip
                        exfalso; omega
                      · skip
                        refine q_iconst dX7_readTurner_125 (by decide) ?_
                        intro v794 h795
                        have eF := hF.eq
                        have eP := hP.eq
                        obtain ⟨v796, c797⟩ : ∃ v, I343 a0 2 = v := ⟨_, rfl⟩
                        have b798 := iv7_2 hS351.1 ta0 c797
                        obtain ⟨v799, c800⟩ : ∃ v, I343 a0 4 = v := ⟨_, rfl⟩
                        have b801 := iv7_4 hS351.1 ta0 c800
                        obtain ⟨v802, c803⟩ : ∃ v, I343 a0 3 = v := ⟨_, rfl⟩
                        have b804 := iv7_3 hS351.1 ta0 c803
                        obtain ⟨y805, c806⟩ : ∃ v, L345 a0 5 = v := ⟨_, rfl⟩
                        obtain ⟨v807, c808⟩ : ∃ v, I343 a0 6 = v := ⟨_, rfl⟩
                        exact tr_zret hZ dX7_readTurner_126 rfl (ti_b01 (by omega) (by omega)) (by decide) (by decide) ⟨v794, rfl, rfl, rfl, rfl, rfl, hS351, hL358, (by omega), (Or.inr (⟨(by first | done | omega), (by first | done | omega), (by (try rw [c790]); first | done | omega), (by (try rw [c792]); first | done | omega), trivial⟩)), trivial⟩
                · skip
                  obtain ⟨v809, c810⟩ : ∃ v, I292 a0 15 = v := ⟨_, rfl⟩
                  rw [c810] at p321
                  obtain ⟨v811, c812⟩ : ∃ v, I292 a0 16 = v := ⟨_, rfl⟩
                  rw [c812] at p322
                  replace hF := hF.pos (by omega)
                  replace hP := hP.pos (by omega)
                  refine q_if_eq 125 dX7_readTurner_112 (by decide) (fun h813 => ?_) (fun h813 => ?_)
                  · skip
                    refine q_iconst dX7_readTurner_125 (by decide) ?_
                    intro v814 h815
                    have eF := hF.eq
                    have eP := hP.eq
                    obtain ⟨v816, c817⟩ : ∃ v, I292 a0 2 = v := ⟨_, rfl⟩
                    have b818 := iv7_2 hS300.1 ta0 c817
                    obtain ⟨v819, c820⟩ : ∃ v, I292 a0 4 = v := ⟨_, rfl⟩
                    have b821 := iv7_4 hS300.1 ta0 c820
                    obtain ⟨v822, c823⟩ : ∃ v, I292 a0 3 = v := ⟨_, rfl⟩
                    have b824 := iv7_3 hS300.1 ta0 c823
                    obtain ⟨y825, c826⟩ : ∃ v, L294 a0 5 = v := ⟨_, rfl⟩
                    obtain ⟨v827, c828⟩ : ∃ v, I292 a0 6 = v := ⟨_, rfl⟩
                    exact tr_zret hZ dX7_readTurner_126 rfl (ti_b01 (by omega) (by omega)) (by decide) (by decide) ⟨v814, rfl, rfl, rfl, rfl, rfl, hS300, hL307, (by omega), (Or.inr (⟨(by first | done | omega), (by first | done | omega), (by (try rw [c810]); first | done | omega), (by (try rw [c812]); first | done | omega), trivial⟩)), trivial⟩
                  · skip
                    exfalso; omega
              · skip
                exfalso; omega
            · skip
              obtain ⟨v829, c830⟩ : ∃ v, I215 a0 15 = v := ⟨_, rfl⟩
              rw [c830] at p241
              obtain ⟨v831, c832⟩ : ∃ v, I215 a0 16 = v := ⟨_, rfl⟩
              rw [c832] at p242
              replace hF := hF.pos (by omega)
              replace hP := hP.pos (by omega)
              refine q_if_ne 89 dX7_readTurner_84 (by decide) (fun h833 => ?_) (fun h833 => ?_)
              · skip
                exfalso; omega
              · skip
                refine q_iconst dX7_readTurner_87 (by decide) ?_
                intro v834 h835
                have eF := hF.eq
                have eP := hP.eq
                obtain ⟨v836, c837⟩ : ∃ v, I215 a0 2 = v := ⟨_, rfl⟩
                have b838 := iv7_2 hS223.1 ta0 c837
                obtain ⟨v839, c840⟩ : ∃ v, I215 a0 4 = v := ⟨_, rfl⟩
                have b841 := iv7_4 hS223.1 ta0 c840
                obtain ⟨v842, c843⟩ : ∃ v, I215 a0 3 = v := ⟨_, rfl⟩
                have b844 := iv7_3 hS223.1 ta0 c843
                obtain ⟨y845, c846⟩ : ∃ v, L217 a0 5 = v := ⟨_, rfl⟩
                obtain ⟨v847, c848⟩ : ∃ v, I215 a0 6 = v := ⟨_, rfl⟩
                exact tr_zret hZ dX7_readTurner_88 rfl (ti_b01 (by omega) (by omega)) (by decide) (by decide) ⟨v834, rfl, rfl, rfl, rfl, rfl, hS223, hL226, (by omega), (Or.inr (⟨(by first | done | omega), (by first | done | omega), (by (try rw [c830]); first | done | omega), (by (try rw [c832]); first | done | omega), trivial⟩)), trivial⟩
        · skip
          obtain ⟨v849, c850⟩ : ∃ v, I172 a0 15 = v := ⟨_, rfl⟩
          rw [c850] at p197
          obtain ⟨v851, c852⟩ : ∃ v, I172 a0 16 = v := ⟨_, rfl⟩
          rw [c852] at p198
          replace hF := hF.pos (by omega)
          replace hP := hP.pos (by omega)
          refine q_if_eq 87 dX7_readTurner_77 (by decide) (fun h853 => ?_) (fun h853 => ?_)
          · skip
            refine q_iconst dX7_readTurner_87 (by decide) ?_
            intro v854 h855
            have eF := hF.eq
            have eP := hP.eq
            obtain ⟨v856, c857⟩ : ∃ v, I172 a0 2 = v := ⟨_, rfl⟩
            have b858 := iv7_2 hS180.1 ta0 c857
            obtain ⟨v859, c860⟩ : ∃ v, I172 a0 4 = v := ⟨_, rfl⟩
            have b861 := iv7_4 hS180.1 ta0 c860
            obtain ⟨v862, c863⟩ : ∃ v, I172 a0 3 = v := ⟨_, rfl⟩
            have b864 := iv7_3 hS180.1 ta0 c863
            obtain ⟨y865, c866⟩ : ∃ v, L174 a0 5 = v := ⟨_, rfl⟩
            obtain ⟨v867, c868⟩ : ∃ v, I172 a0 6 = v := ⟨_, rfl⟩
            exact tr_zret hZ dX7_readTurner_88 rfl (ti_b01 (by omega) (by omega)) (by decide) (by decide) ⟨v854, rfl, rfl, rfl, rfl, rfl, hS180, hL183, (by omega), (Or.inr (⟨(by first | done | omega), (by first | done | omega), (by (try rw [c850]); first | done | omega), (by (try rw [c852]); first | done | omega), trivial⟩)), trivial⟩
          · skip
            exfalso; omega
      · skip
        replace hF := hF.pos (by omega)
        replace hP := hP.pos (by omega)
        refine tr_aload_n dX7_readTurner_61 rfl ?_
        refine q_iconst dX7_readTurner_62 (by decide) ?_
        intro v869 h870
        refine q_callVi hE (M' := mX7_fail) (as := [_]) dX7_readTurner_63 lk7_64 inX7_fail seX7_fail myX7_fail (by decide) ⟨by decide, by decide⟩ rfl (kR7 hS129.1 ta0) (Nat.le_of_ble_eq_true rfl) rfl rfl (by decide) (by decide) (fk_X7_fail hS129.1  ta0 (by omega)) ?_
        rintro v876 cn' K' N' I871 R872 L873 ⟨rfl, rfl, rfl, rfl, rfl, g874, h877, p878, p879, p880, -⟩
        have hS881 := hS129.tr g874 (by decide +kernel) (by decide +kernel)
        have c882 : I871 a23 9 = v37 := (g874.cell ta23 (by decide +kernel)).trans c132
        have c883 : I871 a0 2 = v107 := (g874.cell ta0 (by decide +kernel)).trans c134
        have c884 : I871 a0 4 = v110 := (g874.cell ta0 (by decide +kernel)).trans c135
        have c885 : I871 a0 3 = v113 := (g874.cell ta0 (by decide +kernel)).trans c136
        have c886 : I871 a0 6 = v118 := (g874.cell ta0 (by decide +kernel)).trans c137
        have c887 : I871 a88 0 = v125 := (g874.cell ta88 (by decide +kernel)).trans e130
        obtain ⟨v888, c889⟩ : ∃ v, I871 a0 15 = v := ⟨_, rfl⟩
        rw [c889] at p879
        obtain ⟨v890, c891⟩ : ∃ v, I871 a0 16 = v := ⟨_, rfl⟩
        rw [c891] at p880
        rw [c135] at p880
        have eF := hF.eq
        have eP := hP.eq
        exact tr_zret hZ dX7_readTurner_66 rfl (ti_b01 (by omega) (by omega)) (by decide) (by decide) ⟨v876, rfl, rfl, rfl, rfl, rfl, hS881, hL104, (by omega), (Or.inr (⟨(by first | done | omega), (by first | done | omega), (by (try rw [c889]); first | done | omega), (by (try rw [c891]); first | done | omega), trivial⟩)), trivial⟩
    · skip
      exfalso; omega
  · skip
    obtain ⟨v892, c893⟩ : ∃ v, I45 a0 15 = v := ⟨_, rfl⟩
    rw [c893] at p67
    obtain ⟨v894, c895⟩ : ∃ v, I45 a0 16 = v := ⟨_, rfl⟩
    rw [c895] at p68
    replace hF := hF.pos (by omega)
    replace hP := hP.pos (by omega)
    refine q_if_ne 9 dX7_readTurner_4 (by decide) (fun h896 => ?_) (fun h896 => ?_)
    · skip
      exfalso; omega
    · skip
      refine q_iconst dX7_readTurner_7 (by decide) ?_
      intro v897 h898
      have eF := hF.eq
      have eP := hP.eq
      exact tr_zret hZ dX7_readTurner_8 rfl (ti_b01 (by omega) (by omega)) (by decide) (by decide) ⟨v897, rfl, rfl, rfl, rfl, rfl, hS53, hL0, (by omega), (Or.inr (⟨(by first | done | omega), (by first | done | omega), (by (try rw [c893]); first | done | omega), (by (try rw [c895]); first | done | omega), trivial⟩)), trivial⟩
  · skip
    obtain ⟨v899, c900⟩ : ∃ v, I45 a0 15 = v := ⟨_, rfl⟩
    rw [c900] at p72
    obtain ⟨v901, c902⟩ : ∃ v, I45 a0 16 = v := ⟨_, rfl⟩
    rw [c902] at p73
    replace hF := hF.neg (by omega)
    replace hP := hP.neg (by omega)
    replace hF := hF.pos (by omega)
    replace hP := hP.pos (by omega)
    refine q_if_ne 9 dX7_readTurner_4 (by decide) (fun h903 => ?_) (fun h903 => ?_)
    · skip
      exfalso; omega
    · skip
      refine q_iconst dX7_readTurner_7 (by decide) ?_
      intro v904 h905
      have eF := hF.eq
      have eP := hP.eq
      exact tr_zret hZ dX7_readTurner_8 rfl (ti_b01 (by omega) (by omega)) (by decide) (by decide) ⟨v904, rfl, rfl, rfl, rfl, rfl, hS53, hL0, (by omega), (Or.inr (⟨(by first | done | omega), (by first | done | omega), (by (try rw [c900]); first | done | omega), (by (try rw [c902]); first | done | omega), trivial⟩)), trivial⟩
