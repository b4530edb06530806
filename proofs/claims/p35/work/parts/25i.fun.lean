def wik_X7_readHuts : List Nat := [261, 450, 451, 452, 454, 463, 464]
def wrk_X7_readHuts : List Nat := []
def wlk_X7_readHuts : List Nat := [453]
set_option maxHeartbeats 4000000 in
theorem fk_X7_readHuts {l : Launch} {T : Nat → Nat} {cn : Nat} {K N : Nat → Nat} {I0 : cz_I} {R0 : cz_R} {L0 : cz_L} {d : Int} (hW0 : Wf T cn K N I0 R0 d) (gB : cz_B) (gs : Int) (gQ : Nat → Int) {a0 : Nat} (ta0 : T a0 = 7) {a1 : Nat} (ta1 : T a1 = 4) (hT : ∀ t, R0 a0 0 = some t → Tx I0 t gB) (pre0 : (I0 a0 2).toInt = (tkN gB gs)) (pre1 : (I0 a0 4).toInt = (tkS gB gs)) (pre2 : (I0 a0 3).toInt = (tkK gB gs)) (pre3 : (AtW ((tkK gB gs)) ((L0 a0 5).toInt) ((tkW gB gs)))) (pre4 : (AtV ((tkK gB gs)) ((I0 a0 6).toInt) ((tkV gB gs)))) (pre5 : (I0 a0 1).toInt = (gB.2)) (pre6 : ∀ b1, R0 a0 10 = some b1 → (I0 b1 1).toInt = (gQ 1)) : ConE l mX7_readHuts [.ref a0, .ref a1] cn K N I0 R0 L0 (ca_i (fun v cn' K' N' I' R' L' => cn = cn' ∧ K = K' ∧ N = N' ∧ R0 = R' ∧ St T cn K N d wik_X7_readHuts wrk_X7_readHuts I0 R0 I' R0 ∧ LgS T wlk_X7_readHuts L0 L' ∧ (0 ≤ v.toInt ∧ v.toInt ≤ 1) ∧ (((v.toInt = 1) ∧ ((I' a0 15).toInt = (I0 a0 15).toInt) ∧ ((huF gB gQ 901 0 gs) = 0) ∧ ((I' a0 2).toInt = (tkN gB (huS gB gQ 901 0 gs))) ∧ ((I' a0 4).toInt = (tkS gB (huS gB gQ 901 0 gs))) ∧ ((I' a0 3).toInt = (tkK gB (huS gB gQ 901 0 gs))) ∧ ((AtW ((tkK gB (huS gB gQ 901 0 gs))) ((L' a0 5).toInt) ((tkW gB (huS gB gQ 901 0 gs))))) ∧ ((AtV ((tkK gB (huS gB gQ 901 0 gs))) ((I' a0 6).toInt) ((tkV gB (huS gB gQ 901 0 gs))))) ∧ True) ∨ ((v.toInt = 0) ∧ ((huF gB gQ 901 0 gs) ≠ 0) ∧ ((I' a0 15).toInt = (huF gB gQ 901 0 gs)) ∧ ((I' a0 16).toInt = (huP gB gQ 901 0 gs)) ∧ True)) ∧ True)) := by
  refine ConE.of (by decide +kernel) rfl (Nat.le_of_ble_eq_true rfl) rfl (fun X hX hZ hE => ?_)
  subst hX
  have hS0 : St T cn K N d wik_X7_readHuts wrk_X7_readHuts I0 R0 I0 R0 := St.rf0 hW0
  have hL0 : LgS T wlk_X7_readHuts L0 L0 := LgS.rf0
  obtain ⟨v1, c2⟩ : ∃ v, I0 a0 2 = v := ⟨_, rfl⟩
  have b3 := iv7_2 hS0.1 ta0 c2
  have p4 := pre0
  rw [c2] at p4
  obtain ⟨v5, c6⟩ : ∃ v, I0 a0 4 = v := ⟨_, rfl⟩
  have b7 := iv7_4 hS0.1 ta0 c6
  have p8 := pre1
  rw [c6] at p8
  obtain ⟨v9, c10⟩ : ∃ v, I0 a0 3 = v := ⟨_, rfl⟩
  have b11 := iv7_3 hS0.1 ta0 c10
  have p12 := pre2
  rw [c10] at p12
  obtain ⟨y13, c14⟩ : ∃ v, L0 a0 5 = v := ⟨_, rfl⟩
  have p15 := pre3
  rw [c14] at p15
  obtain ⟨v16, c17⟩ : ∃ v, I0 a0 6 = v := ⟨_, rfl⟩
  have p18 := pre4
  rw [c17] at p18
  obtain ⟨v19, c20⟩ : ∃ v, I0 a0 1 = v := ⟨_, rfl⟩
  have b21 := iv7_1 hW0 ta0 c20
  have p22 := pre5
  rw [c20] at p22
  obtain ⟨a23, d24, ta23⟩ := rf7_10 hW0 ta0
  obtain ⟨v25, c26⟩ : ∃ v, I0 a23 1 = v := ⟨_, rfl⟩
  have b27 := iv2_1 hW0 ta23 c26
  have p28 := pre6 _ d24
  rw [c26] at p28
  obtain ⟨v29, c30⟩ : ∃ v, I0 a0 15 = v := ⟨_, rfl⟩
  refine tr_aload_n dX7_readHuts_0 rfl ?_
  refine q_iconst dX7_readHuts_1 (by decide) ?_
  intro v31 h32
  refine q_putI dX7_readHuts_2 fl7_274 (kR4 hS0.1 ta1) (Or.inl rfl) hS0 ta1 (iokF rfl) rfl (by decide +kernel) ?_
  intro I33 hS34 e35 f36
  have c37 : I33 a0 2 = v1 := (f36 _ _ (fun q => absurd q.2 (by decide))).trans c2
  have c38 : I33 a0 4 = v5 := (f36 _ _ (fun q => absurd q.2 (by decide))).trans c6
  have c39 : I33 a0 3 = v9 := (f36 _ _ (fun q => absurd q.2 (by decide))).trans c10
  have c40 : I33 a0 6 = v16 := (f36 _ _ (fun q => absurd q.2 (by decide))).trans c17
  have c41 : I33 a0 15 = v29 := (f36 _ _ (fun q => absurd q.2 (by decide))).trans c30
  refine q_iconst dX7_readHuts_5 (by decide) ?_
  intro v42 h43
  refine tr_istore_n dX7_readHuts_6 (by decide) (by decide) ?_
  have lp84 : ∀ (fu : Nat) (ls : Nat → Option Value) (v44 : Int32) (I48 : cz_I) (L49 : cz_L) (gs50 : Int) (gr51 : Nat) (gh52 : Int) (v55 : Int32) (v57 : Int32) (v59 : Int32) (v61 : Int32) (v63 : Int32) (y65 : Int64) (v67 : Int32), ls 0 = some (.ref a0) → ls 1 = some (.ref a1) → ls 2 = some (.int v44) → St T cn K N d wik_X7_readHuts wrk_X7_readHuts I0 R0 I48 R0 → LgS T wlk_X7_readHuts L0 L49 → I48 a1 5 = v55 → I48 a0 15 = v57 → I48 a0 2 = v59 → I48 a0 4 = v61 → I48 a0 3 = v63 → L49 a0 5 = y65 → I48 a0 6 = v67 → (huF gB gQ gr51 gh52 gs50) = (huF gB gQ 901 0 gs) → (huP gB gQ gr51 gh52 gs50) = (huP gB gQ 901 0 gs) → (huS gB gQ gr51 gh52 gs50) = (huS gB gQ 901 0 gs) → v55.toInt = (gh52) → (gh52) ≥ 0 → (gh52) ≤ 15 → 0 ≤ v44.toInt → v44.toInt ≤ 901 → ((gr51 : Int)) = -v44.toInt + 901 → v57.toInt = v29.toInt → v59.toInt = (tkN gB gs50) → v61.toInt = (tkS gB gs50) → v63.toInt = (tkK gB gs50) → (AtW ((tkK gB gs50)) (y65.toInt) ((tkW gB gs50))) → (AtV ((tkK gB gs50)) (v67.toInt) ((tkV gB gs50))) → (-v44.toInt + 901).toNat < fu → Tr X mX7_readHuts 7 ls [] cn K N I48 R0 L49 0 0 := by
    intro fu
    induction fu with
    | zero => intros; rename_i hz; exact absurd hz (Nat.not_lt_zero _)
    | succ fu ih84 =>
      intro ls v44 I48 L49 gs50 gr51 gh52 v55 v57 v59 v61 v63 y65 v67 hl45 hl46 hl47 hS53 hL54 c56 c58 c60 c62 c64 c66 c68 g69 g70 g71 g72 g73 g74 g75 g76 g77 g78 g79 g80 g81 g82 g83 hm84
      have b86 := iv7_2 hS53.1 ta0 c60
      have b87 := iv7_4 hS53.1 ta0 c62
      have b88 := iv7_3 hS53.1 ta0 c64
      rcases Nat.eq_zero_or_pos gr51 with hz89 | hz89
      · skip
        subst hz89
        refine tr_iload_n dX7_readHuts_7 hl47 ?_
        refine q_sipush dX7_readHuts_8 (by decide +kernel) ?_
        intro v91 h92
        refine q_icmp_gt 93 dX7_readHuts_11 (by decide) (fun h93 => ?_) (fun h93 => ?_)
        · skip
          refine tr_aload_n dX7_readHuts_93 hl45 ?_
          refine q_iconst dX7_readHuts_94 (by decide) ?_
          intro v94 h95
          refine q_callVi hE (M' := mX7_fail) (as := [_]) dX7_readHuts_95 lk7_64 inX7_fail seX7_fail myX7_fail (by decide) ⟨by decide, by decide⟩ rfl (kR7 hS53.1 ta0) (Nat.le_of_ble_eq_true rfl) rfl rfl (by decide) (by decide) (fk_X7_fail hS53.1  ta0 (by exact om_95922198 h95)) ?_
          rintro v101 cn' K' N' I96 R97 L98 ⟨rfl, rfl, rfl, rfl, rfl, g99, h102, p103, p104, p105, -⟩
          have hS106 := hS53.tr g99 (by decide +kernel) (by decide +kernel)
          have c107 : I96 a1 5 = v55 := (g99.cell ta1 (by decide +kernel)).trans c56
          have c108 : I96 a0 2 = v59 := (g99.cell ta0 (by decide +kernel)).trans c60
          have c109 : I96 a0 4 = v61 := (g99.cell ta0 (by decide +kernel)).trans c62
          have c110 : I96 a0 3 = v63 := (g99.cell ta0 (by decide +kernel)).trans c64
          have c111 : I96 a0 6 = v67 := (g99.cell ta0 (by decide +kernel)).trans c68
          obtain ⟨v112, c113⟩ : ∃ v, I96 a0 15 = v := ⟨_, rfl⟩
          rw [c113] at p104
          obtain ⟨v114, c115⟩ : ∃ v, I96 a0 16 = v := ⟨_, rfl⟩
          rw [c115] at p105
          rw [c62] at p105
          exact tr_zret hZ dX7_readHuts_98 rfl (ti_b01 (by exact om_d99fa9e4 p103) (by exact om_d3de7ec9 p103)) (by decide) (by decide) ⟨v101, rfl, rfl, rfl, rfl, rfl, hS106, hL54, (by exact om_be53a44c h102), (Or.inr (⟨(by first | done | with_reducible assumption | omega), (by rw [← g69]; simp only [huF, ↓reduceIte]; exact om_2d67dd8e), (by (try rw [c113]); rw [← g69]; simp only [huF, ↓reduceIte]; exact om_9fbcd811 h95 p104), (by (try rw [c115]); rw [← g70]; simp only [huP, ↓reduceIte]; exact om_9fa72578 g80 p105), trivial⟩)), trivial⟩
        · skip
          exfalso; exact om_8e38515c g77 h92 h93
      · skip
        obtain ⟨gk90, rfl⟩ : ∃ k, gr51 = k + 1 := ⟨gr51 - 1, by exact om_8cf6b69f g75 g76 g77 hz89⟩
        refine tr_iload_n dX7_readHuts_7 hl47 ?_
        refine q_sipush dX7_readHuts_8 (by decide +kernel) ?_
        intro v116 h117
        refine q_icmp_gt 93 dX7_readHuts_11 (by decide) (fun h118 => ?_) (fun h118 => ?_)
        · skip
          exfalso; exact om_fe05af17 g75 g76 g77 h117 h118
        · skip
          refine tr_aload_n dX7_readHuts_14 hl45 ?_
          refine q_iconst dX7_readHuts_15 (by decide) ?_
          intro v119 h120
          refine tr_aload_n dX7_readHuts_16 hl45 ?_
          refine tr_getR dX7_readHuts_17 fl7_22 (kR7 hS53.1 ta0) d24 ?_
          refine q_getI dX7_readHuts_20 fl7_112 (kR2 hS53.1 ta23) ((hS53.cell ta23 (by decide +kernel)).trans c26) ?_
          refine q_iconst dX7_readHuts_23 (by decide) ?_
          intro v121 h122
          refine q_isubE dX7_readHuts_24 (by intro j1 j2 j3 j4; exact om_1b9d7214 b27.2 b27.1 p28 h122) ?_
          intro v123 h124
          refine q_callVi hE (M' := mX7_seesWhole) (as := [_, _]) dX7_readHuts_25 lk7_105 inX7_seesWhole seX7_seesWhole myX7_seesWhole (by decide) ⟨by decide, by decide⟩ rfl (kR7 hS53.1 ta0) (Nat.le_of_ble_eq_true rfl) rfl rfl (by decide) (by decide) (fk_X7_seesWhole hS53.1 (gB) (gs50) ta0 (by (try rw [c60]); first | done | with_reducible assumption | omega) (by (try rw [c62]); first | done | with_reducible assumption | omega) (by (try rw [c64]); first | done | with_reducible assumption | omega) (by (try rw [c66]); first | done | assumption) (by (try rw [c68]); first | done | assumption)) ?_
          rintro v130 cn' K' N' I125 R126 L127 ⟨rfl, rfl, rfl, rfl, rfl, g128, h131, dj132, -⟩
          have hS133 := hS53.tr g128 (by decide +kernel) (by decide +kernel)
          have c134 : I125 a1 5 = v55 := (g128.cell ta1 (by decide +kernel)).trans c56
          have c135 : I125 a0 2 = v59 := (g128.cell ta0 (by decide +kernel)).trans c60
          have c136 : I125 a0 4 = v61 := (g128.cell ta0 (by decide +kernel)).trans c62
          have c137 : I125 a0 3 = v63 := (g128.cell ta0 (by decide +kernel)).trans c64
          have c138 : I125 a0 6 = v67 := (g128.cell ta0 (by decide +kernel)).trans c68
          rcases dj132 with ⟨p139, p140, p141, p142, p143, p144, -⟩ | ⟨p145, p146, p147, p148, -⟩ | ⟨p149, p150, p151, p152, p153, -⟩
          · skip
            obtain ⟨v154, c155⟩ : ∃ v, I125 a0 15 = v := ⟨_, rfl⟩
            rw [c155] at p140
            rw [c58] at p140
            rw [c68] at p144
            refine q_if_ne 33 dX7_readHuts_28 (by decide) (fun h156 => ?_) (fun h156 => ?_)
            · skip
              refine tr_aload_n dX7_readHuts_33 hl46 ?_
              refine q_getI dX7_readHuts_34 fl7_274 (kR4 hS133.1 ta1) c134 ?_
              refine tr_aload_n dX7_readHuts_37 hl45 ?_
              have p157 := g83 (by exact om_80d827e6 p141)
              refine q_getI dX7_readHuts_38 fl7_86 (kR7 hS133.1 ta0) c138 ?_
              refine q_callSNi hE (M' := mX10_bit) (as := [_, _]) dX7_readHuts_41 lk7_275 inX10_bit myX10_bit ⟨by decide, by decide⟩ rfl (Nat.le_of_ble_eq_true rfl) rfl rfl (by decide) (by decide) (f_X10_bit   (by exact om_d753a46c g72 g73 g74) (by exact om_19943236 b27.2 b27.1 p28 h120 h122 h124 p142 p143 p144)) ?_
              rintro v163 cn' K' N' I158 R159 L160 ⟨rfl, rfl, rfl, rfl, rfl, rfl, p164, -⟩
              rw [show v55.toInt = gh52 by exact om_acd7a85a g72, show v67.toInt = tkV gB gs50 by exact om_acd7a85a p157] at p164
              refine q_iconst dX7_readHuts_44 (by decide) ?_
              intro v165 h166
              refine q_icmp_ne 54 dX7_readHuts_45 (by decide) (fun h167 => ?_) (fun h167 => ?_)
              · skip
                refine tr_aload_n dX7_readHuts_54 hl46 ?_
                refine tr_dup dX7_readHuts_55 rfl ?_
                refine q_getI dX7_readHuts_56 fl7_274 (kR4 hS133.1 ta1) c134 ?_
                refine q_iconst dX7_readHuts_59 (by decide) ?_
                intro v168 h169
                refine tr_aload_n dX7_readHuts_60 hl45 ?_
                refine q_getI dX7_readHuts_61 fl7_86 (kR7 hS133.1 ta0) c138 ?_
                refine tr_ishl dX7_readHuts_64 ?_
                refine tr_ior dX7_readHuts_65 ?_
                obtain ⟨v170, lx171⟩ : ∃ z, z = v55 ||| (v168 <<< (v67 &&& 31)) := ⟨_, rfl⟩
                rw [← lx171]
                have p172 : v170.toInt = gh52 + pw (tkV gB gs50) ∧ gh52 + pw (tkV gB gs50) ≤ 15 := by rw [lx171, show gh52 = v55.toInt by exact om_7847aadf g72, show tkV gB gs50 = v67.toInt by exact om_7847aadf p144]; exact hut_or (by exact om_d753a46c g72 g73 g74) (by exact om_19943236 b27.2 b27.1 p28 h120 h122 h124 p142 p143 p144) (by exact om_ee8a1e2d h169) (by rw [show v55.toInt = gh52 by exact om_acd7a85a g72, show v67.toInt = tkV gB gs50 by exact om_acd7a85a p157]; exact om_4b5de522 p164 h166 h167)
                have p1720 := pw_pos (tkV gB gs50)
                refine q_putI dX7_readHuts_66 fl7_274 (kR4 hS133.1 ta1) (Or.inl rfl) hS133 ta1 (iokF rfl) rfl (by decide +kernel) ?_
                intro I173 hS174 e175 f176
                have c177 : I173 a0 2 = v59 := (f176 _ _ (fun q => absurd q.2 (by decide))).trans c135
                have c178 : I173 a0 4 = v61 := (f176 _ _ (fun q => absurd q.2 (by decide))).trans c136
                have c179 : I173 a0 3 = v63 := (f176 _ _ (fun q => absurd q.2 (by decide))).trans c137
                have c180 : I173 a0 6 = v67 := (f176 _ _ (fun q => absurd q.2 (by decide))).trans c138
                have c181 : I173 a0 15 = v154 := (f176 _ _ (fun q => absurd q.2 (by decide))).trans c155
                refine tr_aload_n dX7_readHuts_69 hl45 ?_
                refine q_callVv hE (M' := mX7_step) (as := []) dX7_readHuts_70 lk7_51 inX7_step seX7_step myX7_step (by decide) ⟨by decide, by decide⟩ rfl (kR7 hS174.1 ta0) (Nat.le_of_ble_eq_true rfl) rfl rfl (by decide) (by decide) (fk_X7_step hS174.1 (gB) ((tkN gB gs50)) ta0 (TxA.kp hT hS174 ta0 rfl rfl rfl (by decide +kernel) (by decide +kernel)) (by (try rw [c177]); first | done | with_reducible assumption | omega) (by (try rw [((hS174.cell ta0 (by decide +kernel)).trans c20)]); first | done | with_reducible assumption | omega)) ?_
                rintro cn' K' N' I182 R183 L184 ⟨rfl, rfl, rfl, rfl, g185, gl186, p188, p189, p190, p191, p192, -⟩
                have hS193 := hS174.tr g185 (by decide +kernel) (by decide +kernel)
                have c194 : I182 a0 15 = v154 := (g185.cell ta0 (by decide +kernel)).trans c181
                have c195 : I182 a1 5 = v170 := (g185.cell ta1 (by decide +kernel)).trans e175
                have hL196 := hL54.tr gl186 (by decide +kernel)
                obtain ⟨v197, c198⟩ : ∃ v, I182 a0 2 = v := ⟨_, rfl⟩
                have b199 := iv7_2 hS193.1 ta0 c198
                rw [c198] at p188
                obtain ⟨v200, c201⟩ : ∃ v, I182 a0 4 = v := ⟨_, rfl⟩
                have b202 := iv7_4 hS193.1 ta0 c201
                rw [c201] at p189
                obtain ⟨v203, c204⟩ : ∃ v, I182 a0 3 = v := ⟨_, rfl⟩
                have b205 := iv7_3 hS193.1 ta0 c204
                rw [c204] at p190
                obtain ⟨y206, c207⟩ : ∃ v, L184 a0 5 = v := ⟨_, rfl⟩
                rw [c207] at p191
                obtain ⟨v208, c209⟩ : ∃ v, I182 a0 6 = v := ⟨_, rfl⟩
                rw [c209] at p192
                refine tr_aload_n dX7_readHuts_73 hl45 ?_
                refine q_getI dX7_readHuts_74 fl7_58 (kR7 hS193.1 ta0) c204 ?_
                refine q_iconst dX7_readHuts_77 (by decide) ?_
                intro v210 h211
                refine q_icmp_eq 83 dX7_readHuts_78 (by decide) (fun h212 => ?_) (fun h212 => ?_)
                · skip
                  refine tr_aload_n dX7_readHuts_83 hl45 ?_
                  refine q_callVv hE (M' := mX7_step) (as := []) dX7_readHuts_84 lk7_51 inX7_step seX7_step myX7_step (by decide) ⟨by decide, by decide⟩ rfl (kR7 hS193.1 ta0) (Nat.le_of_ble_eq_true rfl) rfl rfl (by decide) (by decide) (fk_X7_step hS193.1 (gB) ((tkN gB (tkN gB gs50))) ta0 (TxA.kp hT hS193 ta0 rfl rfl rfl (by decide +kernel) (by decide +kernel)) (by (try rw [c198]); first | done | with_reducible assumption | omega) (by (try rw [((hS193.cell ta0 (by decide +kernel)).trans c20)]); first | done | with_reducible assumption | omega)) ?_
                  rintro cn' K' N' I213 R214 L215 ⟨rfl, rfl, rfl, rfl, g216, gl217, p219, p220, p221, p222, p223, -⟩
                  have hS224 := hS193.tr g216 (by decide +kernel) (by decide +kernel)
                  have c225 : I213 a0 15 = v154 := (g216.cell ta0 (by decide +kernel)).trans c194
                  have c226 : I213 a1 5 = v170 := (g216.cell ta1 (by decide +kernel)).trans c195
                  have hL227 := hL196.tr gl217 (by decide +kernel)
                  obtain ⟨v228, c229⟩ : ∃ v, I213 a0 2 = v := ⟨_, rfl⟩
                  have b230 := iv7_2 hS224.1 ta0 c229
                  rw [c229] at p219
                  obtain ⟨v231, c232⟩ : ∃ v, I213 a0 4 = v := ⟨_, rfl⟩
                  have b233 := iv7_4 hS224.1 ta0 c232
                  rw [c232] at p220
                  obtain ⟨v234, c235⟩ : ∃ v, I213 a0 3 = v := ⟨_, rfl⟩
                  have b236 := iv7_3 hS224.1 ta0 c235
                  rw [c235] at p221
                  obtain ⟨y237, c238⟩ : ∃ v, L215 a0 5 = v := ⟨_, rfl⟩
                  rw [c238] at p222
                  obtain ⟨v239, c240⟩ : ∃ v, I213 a0 6 = v := ⟨_, rfl⟩
                  rw [c240] at p223
                  refine q_iincE dX7_readHuts_87 hl47 (by decide) (by decide) (by intro j1 j2; exact om_6e16a9c7 g75 g76 g77) ?_
                  intro v241 h242
                  refine tr_goto 7 dX7_readHuts_90 (by decide) ?_
                  exact ih84 _ v241 I213 L215 ((tkN gB (tkN gB gs50))) (gk90) ((gh52 + pw (tkV gB gs50))) v170 v154 v228 v231 v234 y237 v239 hl45 hl46 rfl hS224 hL227 c226 c225 c229 c232 c235 c238 c240 (by rw [← g69]; simp only [huF, ↓reduceIte]; exact om_af1b5308 p28 h120 h122 h124 p141 p142 p143 p144 p164 h166 h167 p190 h211 h212) (by rw [← g70]; simp only [huP, ↓reduceIte]; exact om_8061694a p28 h120 h122 h124 p141 p142 p143 p144 p164 h166 h167 p190 h211 h212) (by rw [← g71]; simp only [huS, ↓reduceIte]; exact om_2964507b p190 h211 h212) (by exact om_82f20683 p172.1) (by exact om_d3e2b145 g73 g74 p172.1 p1720) (by exact om_d3a46a98 p172.1 p172.2) (by exact om_7639a54d g75 g76 g77 h242) (by exact om_b3c88cb2 g75 g76 g77 h242) (by exact om_6737e945 g77 h242) (by exact om_9fa72578 g78 p140) (by exact om_acd7a85a p219) (by exact om_acd7a85a p220) (by exact om_acd7a85a p221) (by assumption) (by assumption) (by exact om_9e8ed4e6 g75 g76 hm84 g77 p139 h156 h167 h242)
                · skip
                  refine q_iconst dX7_readHuts_81 (by decide) ?_
                  intro v243 h244
                  have es245 : huS gB gQ 901 0 gs = (tkN gB gs50) := by rw [← g71]; simp only [huS, ↓reduceIte]; exact om_6d32b66e p190 h211 h212
                  obtain ⟨v246, c247⟩ : ∃ v, I182 a0 16 = v := ⟨_, rfl⟩
                  exact tr_zret hZ dX7_readHuts_82 rfl (ti_b01 (by exact om_f9079521 h244) (by exact om_e6632817 h244)) (by decide) (by decide) ⟨v243, rfl, rfl, rfl, rfl, rfl, hS193, hL196, (by exact om_d753bc65 h244), (Or.inl ⟨(by (try rw [es245]); first | done | with_reducible assumption | omega), (by (try rw [es245]); (try rw [c194]); (try rw [c30]); first | done | with_reducible assumption | exact om_9fa72578 g78 p140), (by rw [← g69]; simp only [huF, ↓reduceIte]; exact om_3595e5fc p28 h120 h122 h124 p141 p142 p143 p144 p164 h166 h167 p190 h211 h212), (by (try rw [es245]); (try rw [c198]); first | done | with_reducible assumption | omega), (by (try rw [es245]); (try rw [c201]); first | done | with_reducible assumption | omega), (by (try rw [es245]); (try rw [c204]); first | done | with_reducible assumption | omega), (by (try rw [es245]); (try rw [c207]); first | done | assumption), (by (try rw [es245]); (try rw [c209]); first | done | assumption), trivial⟩), trivial⟩
              · skip
                refine tr_aload_n dX7_readHuts_48 hl45 ?_
                refine q_iconst dX7_readHuts_49 (by decide) ?_
                intro v248 h249
                refine q_callVi hE (M' := mX7_fail) (as := [_]) dX7_readHuts_50 lk7_64 inX7_fail seX7_fail myX7_fail (by decide) ⟨by decide, by decide⟩ rfl (kR7 hS133.1 ta0) (Nat.le_of_ble_eq_true rfl) rfl rfl (by decide) (by decide) (fk_X7_fail hS133.1  ta0 (by exact om_7e011daf h249)) ?_
                rintro v255 cn' K' N' I250 R251 L252 ⟨rfl, rfl, rfl, rfl, rfl, g253, h256, p257, p258, p259, -⟩
                have hS260 := hS133.tr g253 (by decide +kernel) (by decide +kernel)
                have c261 : I250 a1 5 = v55 := (g253.cell ta1 (by decide +kernel)).trans c134
                have c262 : I250 a0 2 = v59 := (g253.cell ta0 (by decide +kernel)).trans c135
                have c263 : I250 a0 4 = v61 := (g253.cell ta0 (by decide +kernel)).trans c136
                have c264 : I250 a0 3 = v63 := (g253.cell ta0 (by decide +kernel)).trans c137
                have c265 : I250 a0 6 = v67 := (g253.cell ta0 (by decide +kernel)).trans c138
                obtain ⟨v266, c267⟩ : ∃ v, I250 a0 15 = v := ⟨_, rfl⟩
                rw [c267] at p258
                obtain ⟨v268, c269⟩ : ∃ v, I250 a0 16 = v := ⟨_, rfl⟩
                rw [c269] at p259
                rw [c136] at p259
                exact tr_zret hZ dX7_readHuts_53 rfl (ti_b01 (by exact om_d99fa9e4 p257) (by exact om_d3de7ec9 p257)) (by decide) (by decide) ⟨v255, rfl, rfl, rfl, rfl, rfl, hS260, hL54, (by exact om_be53a44c h256), (Or.inr (⟨(by first | done | with_reducible assumption | omega), (by rw [← g69]; simp only [huF, ↓reduceIte]; exact om_13b2444a p164 h166 h167), (by (try rw [c267]); rw [← g69]; simp only [huF, ↓reduceIte]; exact om_b0f23502 p28 h120 h122 h124 p141 p142 p143 p144 p164 h166 h167 h249 p258), (by (try rw [c269]); rw [← g70]; simp only [huP, ↓reduceIte]; exact om_7db2ab77 g80 b87.2 b87.1 p164 h166 h167 p259), trivial⟩)), trivial⟩
            · skip
              exfalso; exact om_3624102b p139 h156
          · skip
            obtain ⟨v270, c271⟩ : ∃ v, I125 a0 15 = v := ⟨_, rfl⟩
            rw [c271] at p147
            obtain ⟨v272, c273⟩ : ∃ v, I125 a0 16 = v := ⟨_, rfl⟩
            rw [c273] at p148
            refine q_if_ne 33 dX7_readHuts_28 (by decide) (fun h274 => ?_) (fun h274 => ?_)
            · skip
              exfalso; exact om_3a97d4a5 p145 h274
            · skip
              refine q_iconst dX7_readHuts_31 (by decide) ?_
              intro v275 h276
              exact tr_zret hZ dX7_readHuts_32 rfl (ti_b01 (by exact om_d99fa9e4 h276) (by exact om_d3de7ec9 h276)) (by decide) (by decide) ⟨v275, rfl, rfl, rfl, rfl, rfl, hS133, hL54, (by exact om_3b50ecb9 h276), (Or.inr (⟨(by first | done | with_reducible assumption | omega), (by rw [← g69]; simp only [huF, ↓reduceIte]; exact om_55fa2c29 p146), (by (try rw [c271]); rw [← g69]; simp only [huF, ↓reduceIte]; exact om_b9662cc8 p146 p147), (by (try rw [c273]); rw [← g70]; simp only [huP, ↓reduceIte]; exact om_71c6be49 p146 p148), trivial⟩)), trivial⟩
          · skip
            obtain ⟨v277, c278⟩ : ∃ v, I125 a0 15 = v := ⟨_, rfl⟩
            rw [c278] at p152
            obtain ⟨v279, c280⟩ : ∃ v, I125 a0 16 = v := ⟨_, rfl⟩
            rw [c280] at p153
            refine q_if_ne 33 dX7_readHuts_28 (by decide) (fun h281 => ?_) (fun h281 => ?_)
            · skip
              exfalso; exact om_3a97d4a5 p149 h281
            · skip
              refine q_iconst dX7_readHuts_31 (by decide) ?_
              intro v282 h283
              exact tr_zret hZ dX7_readHuts_32 rfl (ti_b01 (by exact om_d99fa9e4 h283) (by exact om_d3de7ec9 h283)) (by decide) (by decide) ⟨v282, rfl, rfl, rfl, rfl, rfl, hS133, hL54, (by exact om_3b50ecb9 h283), (Or.inr (⟨(by first | done | with_reducible assumption | omega), (by rw [← g69]; simp only [huF, ↓reduceIte]; exact om_73e60c61 p28 h120 h122 h124 p151), (by (try rw [c278]); rw [← g69]; simp only [huF, ↓reduceIte]; exact om_fb628f7d p28 h120 h122 h124 p150 p151 p152), (by (try rw [c280]); rw [← g70]; simp only [huP, ↓reduceIte]; exact om_1314cb99 p28 g80 b87.2 b87.1 h120 h122 h124 p151 p153), trivial⟩)), trivial⟩
  exact lp84 _ _ v42 I33 L0 (gs) (901) (0) v31 v29 v1 v5 v9 y13 v16 rfl rfl rfl hS34 hL0 e35 c41 c37 c38 c39 c14 c40 (by first | rfl | (congr 1; omega) | (congr 2 <;> omega)) (by first | rfl | (congr 1; omega) | (congr 2 <;> omega)) (by first | rfl | (congr 1; omega) | (congr 2 <;> omega)) (by exact om_29f55913 h32) (by exact om_46b0a402) (by exact om_366b5763) (by exact om_d99fa9e4 h43) (by exact om_c2b07d34 h43) (by exact om_789ef40c h43) (by exact om_4ee7209a) (by exact om_acd7a85a p4) (by exact om_acd7a85a p8) (by exact om_acd7a85a p12) (by assumption) (by assumption) (Nat.lt_succ_self _)
def wik_X7_readTurner : List Nat := [137, 256, 257, 258, 259, 260, 261, 450, 451, 452, 454, 455, 456, 457, 463, 464]
def wrk_X7_readTurner : List Nat := []
def wlk_X7_readTurner : List Nat := [453, 1727]
set_option maxHeartbeats 4000000 in
theorem fk_X7_readTurner {l : Launch} {T : Nat → Nat} {cn : Nat} {K N : Nat → Nat} {I0 : cz_I} {R0 : cz_R} {L0 : cz_L} {d : Int} (hW0 : Wf T cn K N I0 R0 d) (gB : cz_B) (gs : Int) (gQ : Nat → Int) {a0 : Nat} (ta0 : T a0 = 7) (hT : ∀ t, R0 a0 0 = some t → Tx I0 t gB) (hN : NmC L0 R0 a0 gQ) (pre0 : (I0 a0 2).toInt = (tkN gB gs)) (pre1 : (I0 a0 4).toInt = (tkS gB gs)) (pre2 : (I0 a0 3).toInt = (tkK gB gs)) (pre3 : (AtW ((tkK gB gs)) ((L0 a0 5).toInt) ((tkW gB gs)))) (pre4 : (AtV ((tkK gB gs)) ((I0 a0 6).toInt) ((tkV gB gs)))) (pre5 : (I0 a0 1).toInt = (gB.2)) (pre6 : ∀ b1, R0 a0 10 = some b1 → (I0 b1 0).toInt = (gQ 0)) (pre7 : ∀ b1, R0 a0 10 = some b1 → (I0 b1 1).toInt = (gQ 1)) (pre8 : ∀ b1, R0 a0 10 = some b1 → (I0 b1 5).toInt = (gQ 3)) (pre9 : ∀ b1, R0 a0 10 = some b1 → (I0 b1 9).toInt = (gQ 4)) (pre10 : (gQ 4) ≤ 4) (pre11 : (gQ 3) ≤ 8) : ConE l mX7_readTurner [.ref a0] cn K N I0 R0 L0 (ca_i (fun v cn' K' N' I' R' L' => cn = cn' ∧ K = K' ∧ N = N' ∧ R0 = R' ∧ St T cn K N d wik_X7_readTurner wrk_X7_readTurner I0 R0 I' R0 ∧ LgS T wlk_X7_readTurner L0 L' ∧ (0 ≤ v.toInt ∧ v.toInt ≤ 1) ∧ (∀ dr, R0 a0 10 = some dr → FrO 2 dr T I0 I') ∧ (((v.toInt = 1) ∧ ((I' a0 15).toInt = (I0 a0 15).toInt) ∧ ((tuF gB gQ gs) = 0) ∧ (∀ b1, R0 a0 10 = some b1 → (I' b1 9).toInt = (gQ 4) + 1) ∧ ((I' a0 2).toInt = (tkN gB (tuS gB gQ gs))) ∧ ((I' a0 4).toInt = (tkS gB (tuS gB gQ gs))) ∧ ((I' a0 3).toInt = (tkK gB (tuS gB gQ gs))) ∧ ((AtW ((tkK gB (tuS gB gQ gs))) ((L' a0 5).toInt) ((tkW gB (tuS gB gQ gs))))) ∧ ((AtV ((tkK gB (tuS gB gQ gs))) ((I' a0 6).toInt) ((tkV gB (tuS gB gQ gs))))) ∧ (NmC L' R0 a0 (bdQ gB gQ 7 gs)) ∧ True) ∨ ((v.toInt = 0) ∧ ((tuF gB gQ gs) ≠ 0) ∧ ((I' a0 15).toInt = (tuF gB gQ gs)) ∧ ((I' a0 16).toInt = (tuP gB gQ gs)) ∧ True)) ∧ True)) := by
  refine ConE.of (by decide +kernel) rfl (Nat.le_of_ble_eq_true rfl) rfl (fun X hX hZ hE => ?_)
  subst hX
  have hS0 : St T cn K N d wik_X7_readTurner wrk_X7_readTurner I0 R0 I0 R0 := St.rf0 hW0
  have hL0 : LgS T wlk_X7_readTurner L0 L0 := LgS.rf0
  obtain ⟨v1, c2⟩ : ∃ v, I0 a0 2 = v := ⟨_, rfl⟩
  have b3 := iv7_2 hS0.1 ta0 c2
  have p4 := pre0
  rw [c2] at p4
  obtain ⟨v5, c6⟩ : ∃ v, I0 a0 4 = v := ⟨_, rfl⟩
  have b7 := iv7_4 hS0.1 ta0 c6
  have p8 := pre1
  rw [c6] at p8
  obtain ⟨v9, c10⟩ : ∃ v, I0 a0 3 = v := ⟨_, rfl⟩
  have b11 := iv7_3 hS0.1 ta0 c10
  have p12 := pre2
  rw [c10] at p12
  obtain ⟨y13, c14⟩ : ∃ v, L0 a0 5 = v := ⟨_, rfl⟩
  have p15 := pre3
  rw [c14] at p15
  obtain ⟨v16, c17⟩ : ∃ v, I0 a0 6 = v := ⟨_, rfl⟩
  have p18 := pre4
  rw [c17] at p18
  obtain ⟨v19, c20⟩ : ∃ v, I0 a0 1 = v := ⟨_, rfl⟩
  have b21 := iv7_1 hW0 ta0 c20
  have p22 := pre5
  rw [c20] at p22
  obtain ⟨a23, d24, ta23⟩ := rf7_10 hW0 ta0
  obtain ⟨v25, c26⟩ : ∃ v, I0 a23 0 = v := ⟨_, rfl⟩
  have b27 := iv2_0 hW0 ta23 c26
  have p28 := pre6 _ d24
  rw [c26] at p28
  obtain ⟨v29, c30⟩ : ∃ v, I0 a23 1 = v := ⟨_, rfl⟩
  have b31 := iv2_1 hW0 ta23 c30
  have p32 := pre7 _ d24
  rw [c30] at p32
  obtain ⟨v33, c34⟩ : ∃ v, I0 a23 5 = v := ⟨_, rfl⟩
  have b35 := iv2_5 hW0 ta23 c34
  have p36 := pre8 _ d24
  rw [c34] at p36
  obtain ⟨v37, c38⟩ : ∃ v, I0 a23 9 = v := ⟨_, rfl⟩
  have b39 := iv2_9 hS0.1 ta23 c38
  have p40 := pre9 _ d24
  rw [c38] at p40
  have p41 := pre10
  have p42 := pre11
  obtain ⟨v43, c44⟩ : ∃ v, I0 a0 15 = v := ⟨_, rfl⟩
  have hO0 : FrO 2 a23 T I0 I0 := FrO.rf
  have hF := tuF_ch gB gQ gs
  have hP := tuP_ch gB gQ gs
  refine tr_aload_n dX7_readTurner_0 rfl ?_
  refine q_callVi hE (M' := mX7_seesNewName) (as := []) dX7_readTurner_1 lk7_231 inX7_seesNewName seX7_seesNewName myX7_seesNewName (by decide) ⟨by decide, by decide⟩ rfl (kR7 hS0.1 ta0) (Nat.le_of_ble_eq_true rfl) rfl rfl (by decide) (by decide) (fk_X7_seesNewName hS0.1 (gB) (gs) (gQ) ta0 hN (by (try rw [c6]); first | done | with_reducible assumption | omega) (by (try rw [c10]); first | done | with_reducible assumption | omega) (by (try rw [c14]); first | done | assumption) (fun q0 z0 => by obtain rfl := Option.some.inj ((d24).symm.trans z0); (try rw [c34]); first | done | with_reducible assumption | omega) (fun q0 z0 => by obtain rfl := Option.some.inj ((d24).symm.trans z0); (try rw [c38]); first | done | with_reducible assumption | omega)) ?_
  rintro v50 cn' K' N' I45 R46 L47 ⟨rfl, rfl, rfl, rfl, rfl, g48, h51, dj52, -⟩
  have hS53 := hS0.tr g48 (by decide +kernel) (by decide +kernel)
  have c54 : I45 a0 2 = v1 := (g48.cell ta0 (by decide +kernel)).trans c2
  have c55 : I45 a0 4 = v5 := (g48.cell ta0 (by decide +kernel)).trans c6
  have c56 : I45 a0 3 = v9 := (g48.cell ta0 (by decide +kernel)).trans c10
  have c57 : I45 a0 6 = v16 := (g48.cell ta0 (by decide +kernel)).trans c17
  have c58 : I45 a23 9 = v37 := (g48.cell ta23 (by decide +kernel)).trans c38
  have hO59 : FrO 2 a23 T I0 I45 := hO0.st g48 (by decide +kernel)
  rcases dj52 with ⟨p60, p61, p62, p63, p64, p65, -⟩ | ⟨p66, p67, p68, p69, -⟩ | ⟨p70, p71, p72, p73, p74, -⟩
  · skip
    obtain ⟨v75, c76⟩ : ∃ v, I45 a0 15 = v := ⟨_, rfl⟩
    rw [c76] at p61
    rw [c44] at p61
    replace hF := hF.neg (by exact om_e4d065d5 p62)
    replace hP := hP.neg (by exact om_e4d065d5 p62)
    replace hF := hF.neg (by exact om_e6f60cd2 p64 p65)
    replace hP := hP.neg (by exact om_e6f60cd2 p64 p65)
    refine q_if_ne 9 dX7_readTurner_4 (by decide) (fun h77 => ?_) (fun h77 => ?_)
    · skip
      refine tr_aload_n dX7_readTurner_9 rfl ?_
      obtain ⟨a78, d79, ta78⟩ := rf7_14 hW0 ta0
      refine tr_getR dX7_readTurner_10 fl7_15 (kR7 hS53.1 ta0) d79 ?_
      refine tr_aload_n dX7_readTurner_13 rfl ?_
      refine tr_getR dX7_readTurner_14 fl7_22 (kR7 hS53.1 ta0) d24 ?_
      refine q_getI dX7_readTurner_17 fl7_156 (kR2 hS53.1 ta23) c58 ?_
      refine tr_aload_n dX7_readTurner_20 rfl ?_
      have p80 := p15 (by exact om_ee8a1e2d p63)
      refine q_getLE dX7_readTurner_21 fl7_78 (kR7 hS53.1 ta0) c14 ?_
      refine q_lastE dX7_readTurner_24 (kR26 hS53.1 ta78) (ti_in (nR26 hS53.1 ta78) (by exact om_0719e2f2 pre10 b39.2 b39.1 p40) (by exact om_38f6bfc7 pre10 b39.2 b39.1 p40)) hL0 ta78 (by rfl) ?_
      intro L81 hL82 e83 f84
      have c85 : L81 a0 5 = y13 := (f84 _ _ (fun q => by have z := ta0; rw [q.1, ta78] at z; exact absurd z (by decide))).trans c14
      have hN86 : NmC L81 R0 a0 gQ := NmC.w14 hN hS53.1 ta0 d79 f84 (by have q := ti_nat (i := v37) (by exact om_0719e2f2 pre10 b39.2 b39.1 p40); exact om_eac64b98 p40 q)
      refine tr_aload_n dX7_readTurner_25 rfl ?_
      refine tr_getR dX7_readTurner_26 fl7_22 (kR7 hS53.1 ta0) d24 ?_
      obtain ⟨a87, d88, ta87⟩ := rf2_10 hW0 ta23
      refine tr_getR dX7_readTurner_29 fl7_243 (kR2 hS53.1 ta23) d88 ?_
      refine tr_aload_n dX7_readTurner_32 rfl ?_
      refine tr_getR dX7_readTurner_33 fl7_22 (kR7 hS53.1 ta0) d24 ?_
      refine q_getI dX7_readTurner_36 fl7_156 (kR2 hS53.1 ta23) c58 ?_
      obtain ⟨a89, d90, ta89⟩ := rf21 hS53.1 ta87 (j := v37.toNatClampNeg) (ti_lt (by exact om_0719e2f2 pre10 b39.2 b39.1 p40) (by exact om_38f6bfc7 pre10 b39.2 b39.1 p40))
      refine tr_aald dX7_readTurner_39 (kR21 hS53.1 ta87) (by decide) (by decide) (ti_in (nR21 hS53.1 ta87) (by exact om_0719e2f2 pre10 b39.2 b39.1 p40) (by exact om_38f6bfc7 pre10 b39.2 b39.1 p40)) d90 ?_
      refine tr_astore_n dX7_readTurner_40 (by decide) (by decide) ?_
      refine tr_aload_n dX7_readTurner_41 rfl ?_
      refine q_callVv hE (M' := mX7_step) (as := []) dX7_readTurner_42 lk7_51 inX7_step seX7_step myX7_step (by decide) ⟨by decide, by decide⟩ rfl (kR7 hS53.1 ta0) (Nat.le_of_ble_eq_true rfl) rfl rfl (by decide) (by decide) (fk_X7_step hS53.1 (gB) ((tkN gB gs)) ta0 (TxA.kp hT hS53 ta0 rfl rfl rfl (by decide +kernel) (by decide +kernel)) (by (try rw [c54]); first | done | with_reducible assumption | omega) (by (try rw [((hS53.cell ta0 (by decide +kernel)).trans c20)]); first | done | with_reducible assumption | omega)) ?_
      rintro cn' K' N' I91 R92 L93 ⟨rfl, rfl, rfl, rfl, g94, gl95, p97, p98, p99, p100, p101, -⟩
      have hS102 := hS53.tr g94 (by decide +kernel) (by decide +kernel)
      have c103 : I91 a23 9 = v37 := (g94.cell ta23 (by decide +kernel)).trans c58
      have c104 : I91 a0 15 = v75 := (g94.cell ta0 (by decide +kernel)).trans c76
      have hO105 : FrO 2 a23 T I0 I91 := hO59.st g94 (by decide +kernel)
      have hL106 := hL82.tr gl95 (by decide +kernel)
      have c107 : L93 a78 v37.toNatClampNeg = y13 := (gl95.cell ta78 (wm_no (by decide +kernel))).trans e83
      have hN108 : NmC L93 R0 a0 gQ := NmC.kp hN86 gl95 hS102.1 ta0 (by decide +kernel) (by decide +kernel)
      obtain ⟨v109, c110⟩ : ∃ v, I91 a0 2 = v := ⟨_, rfl⟩
      have b111 := iv7_2 hS102.1 ta0 c110
      rw [c110] at p97
      obtain ⟨v112, c113⟩ : ∃ v, I91 a0 4 = v := ⟨_, rfl⟩
      have b114 := iv7_4 hS102.1 ta0 c113
      rw [c113] at p98
      obtain ⟨v115, c116⟩ : ∃ v, I91 a0 3 = v := ⟨_, rfl⟩
      have b117 := iv7_3 hS102.1 ta0 c116
      rw [c116] at p99
      obtain ⟨y118, c119⟩ : ∃ v, L93 a0 5 = v := ⟨_, rfl⟩
      rw [c119] at p100
      obtain ⟨v120, c121⟩ : ∃ v, I91 a0 6 = v := ⟨_, rfl⟩
      rw [c121] at p101
      refine tr_aload_n dX7_readTurner_45 rfl ?_
      refine tr_aload_n dX7_readTurner_46 rfl ?_
      refine q_callVi hE (M' := mX7_turnerKind) (as := []) dX7_readTurner_47 lk7_247 inX7_turnerKind seX7_turnerKind myX7_turnerKind (by decide) ⟨by decide, by decide⟩ rfl (kR7 hS102.1 ta0) (Nat.le_of_ble_eq_true rfl) rfl rfl (by decide) (by decide) (fk_X7_turnerKind hS102.1 (gB) ((tkN gB gs)) ta0 (by (try rw [c116]); first | done | with_reducible assumption | omega) (by (try rw [c119]); first | done | assumption)) ?_
      rintro v127 cn' K' N' I122 R123 L124 ⟨rfl, rfl, rfl, rfl, rfl, rfl, h128, p129, -⟩
      refine q_putI dX7_readTurner_50 fl7_250 (kR4 hS102.1 ta89) (Or.inl rfl) hS102 ta89 (iokF rfl) rfl (by decide +kernel) ?_
      intro I130 hS131 e132 f133
      have c134 : I130 a23 9 = v37 := (f133 _ _ (fun q => absurd q.2 (by decide))).trans c103
      have c135 : I130 a0 15 = v75 := (f133 _ _ (fun q => absurd q.2 (by decide))).trans c104
      have c136 : I130 a0 2 = v109 := (f133 _ _ (fun q => absurd q.2 (by decide))).trans c110
      have c137 : I130 a0 4 = v112 := (f133 _ _ (fun q => absurd q.2 (by decide))).trans c113
      have c138 : I130 a0 3 = v115 := (f133 _ _ (fun q => absurd q.2 (by decide))).trans c116
      have c139 : I130 a0 6 = v120 := (f133 _ _ (fun q => absurd q.2 (by decide))).trans c121
      have hO140 : FrO 2 a23 T I0 I130 := hO105.put f133 ta89 (Or.inl (by decide))
      refine tr_aload_n dX7_readTurner_53 rfl ?_
      refine q_getI dX7_readTurner_54 fl7_250 (kR4 hS131.1 ta89) e132 ?_
      refine q_iconst dX7_readTurner_57 (by decide) ?_
      intro v141 h142
      refine q_icmp_ne 67 dX7_readTurner_58 (by decide) (fun h143 => ?_) (fun h143 => ?_)
      · skip
        replace hF := hF.neg (by exact om_81608096 p129 h142 h143)
        replace hP := hP.neg (by exact om_81608096 p129 h142 h143)
        refine tr_aload_n dX7_readTurner_67 rfl ?_
        refine q_callVv hE (M' := mX7_step) (as := []) dX7_readTurner_68 lk7_51 inX7_step seX7_step myX7_step (by decide) ⟨by decide, by decide⟩ rfl (kR7 hS131.1 ta0) (Nat.le_of_ble_eq_true rfl) rfl rfl (by decide) (by decide) (fk_X7_step hS131.1 (gB) ((tkN gB (tkN gB gs))) ta0 (TxA.kp hT hS131 ta0 rfl rfl rfl (by decide +kernel) (by decide +kernel)) (by (try rw [c136]); first | done | with_reducible assumption | omega) (by (try rw [((hS131.cell ta0 (by decide +kernel)).trans c20)]); first | done | with_reducible assumption | omega)) ?_
        rintro cn' K' N' I144 R145 L146 ⟨rfl, rfl, rfl, rfl, g147, gl148, p150, p151, p152, p153, p154, -⟩
        have hS155 := hS131.tr g147 (by decide +kernel) (by decide +kernel)
        have c156 : I144 a23 9 = v37 := (g147.cell ta23 (by decide +kernel)).trans c134
        have c157 : I144 a0 15 = v75 := (g147.cell ta0 (by decide +kernel)).trans c135
        have c158 : I144 a89 0 = v127 := (g147.cell ta89 (by decide +kernel)).trans e132
        have hO159 : FrO 2 a23 T I0 I144 := hO140.st g147 (by decide +kernel)
        have hL160 := hL106.tr gl148 (by decide +kernel)
        have c161 : L146 a78 v37.toNatClampNeg = y13 := (gl148.cell ta78 (wm_no (by decide +kernel))).trans c107
        have hN162 : NmC L146 R0 a0 gQ := NmC.kp hN108 gl148 hS155.1 ta0 (by decide +kernel) (by decide +kernel)
        obtain ⟨v163, c164⟩ : ∃ v, I144 a0 2 = v := ⟨_, rfl⟩
        have b165 := iv7_2 hS155.1 ta0 c164
        rw [c164] at p150
        obtain ⟨v166, c167⟩ : ∃ v, I144 a0 4 = v := ⟨_, rfl⟩
        have b168 := iv7_4 hS155.1 ta0 c167
        rw [c167] at p151
        obtain ⟨v169, c170⟩ : ∃ v, I144 a0 3 = v := ⟨_, rfl⟩
        have b171 := iv7_3 hS155.1 ta0 c170
        rw [c170] at p152
        obtain ⟨y172, c173⟩ : ∃ v, L146 a0 5 = v := ⟨_, rfl⟩
        rw [c173] at p153
        obtain ⟨v174, c175⟩ : ∃ v, I144 a0 6 = v := ⟨_, rfl⟩
        rw [c175] at p154
        refine tr_aload_n dX7_readTurner_71 rfl ?_
        refine tr_ldcS dX7_readTurner_72 ld7_253 ?_
        refine q_callVi hE (M' := mX7_takeWord) (as := [_]) dX7_readTurner_74 lk7_126 inX7_takeWord seX7_takeWord myX7_takeWord (by decide) ⟨by decide, by decide⟩ rfl (kR7 hS155.1 ta0) (Nat.le_of_ble_eq_true rfl) rfl rfl (by decide) (by decide) (fk_X7_takeWord hS155.1 (gB) ((tkN gB (tkN gB gs))) ta0 (by decide) (TxA.kp hT hS155 ta0 rfl rfl rfl (by decide +kernel) (by decide +kernel)) (by (try rw [c164]); first | done | with_reducible assumption | omega) (by (try rw [c167]); first | done | with_reducible assumption | omega) (by (try rw [c170]); first | done | with_reducible assumption | omega) (by (try rw [c173]); first | done | assumption) (by (try rw [c175]); first | done | assumption) (by (try rw [((hS155.cell ta0 (by decide +kernel)).trans c20)]); first | done | with_reducible assumption | omega)) ?_
        rintro v181 cn' K' N' I176 R177 L178 ⟨rfl, rfl, rfl, rfl, g179, gl180, h182, dj183, -⟩
        (try rw [pk_13] at dj183)
        have hS184 := hS155.tr g179 (by decide +kernel) (by decide +kernel)
        have c185 : I176 a23 9 = v37 := (g179.cell ta23 (by decide +kernel)).trans c156
        have c186 : I176 a89 0 = v127 := (g179.cell ta89 (by decide +kernel)).trans c158
        have hO187 : FrO 2 a23 T I0 I176 := hO159.st g179 (by decide +kernel)
        have hL188 := hL160.tr gl180 (by decide +kernel)
        have c189 : L178 a78 v37.toNatClampNeg = y13 := (gl180.cell ta78 (wm_no (by decide +kernel))).trans c161
        have hN190 : NmC L178 R0 a0 gQ := NmC.kp hN162 gl180 hS184.1 ta0 (by decide +kernel) (by decide +kernel)
        rcases dj183 with ⟨p191, p192, p193, p194, p195, p196, p197, p198, p199, -⟩ | ⟨p200, p201, p202, p203, -⟩
        · skip
          obtain ⟨v204, c205⟩ : ∃ v, I176 a0 15 = v := ⟨_, rfl⟩
          rw [c205] at p192
          rw [c157] at p192
          obtain ⟨v206, c207⟩ : ∃ v, I176 a0 2 = v := ⟨_, rfl⟩
          have b208 := iv7_2 hS184.1 ta0 c207
          rw [c207] at p195
          obtain ⟨v209, c210⟩ : ∃ v, I176 a0 4 = v := ⟨_, rfl⟩
          have b211 := iv7_4 hS184.1 ta0 c210
          rw [c210] at p196
          obtain ⟨v212, c213⟩ : ∃ v, I176 a0 3 = v := ⟨_, rfl⟩
          have b214 := iv7_3 hS184.1 ta0 c213
          rw [c213] at p197
          obtain ⟨y215, c216⟩ : ∃ v, L178 a0 5 = v := ⟨_, rfl⟩
          rw [c216] at p198
          obtain ⟨v217, c218⟩ : ∃ v, I176 a0 6 = v := ⟨_, rfl⟩
          rw [c218] at p199
          replace hF := hF.neg (by exact om_58a59c28 p193 p194)
          replace hP := hP.neg (by exact om_58a59c28 p193 p194)
          refine q_if_eq 87 dX7_readTurner_77 (by decide) (fun h219 => ?_) (fun h219 => ?_)
          · skip
            exfalso; exact om_3624102b p191 h219
          · skip
            refine tr_aload_n dX7_readTurner_80 rfl ?_
            refine q_callVi hE (M' := mX7_takeSpan) (as := []) dX7_readTurner_81 lk7_226 inX7_takeSpan seX7_takeSpan myX7_takeSpan (by decide) ⟨by decide, by decide⟩ rfl (kR7 hS184.1 ta0) (Nat.le_of_ble_eq_true rfl) rfl rfl (by decide) (by decide) (fk_X7_takeSpan hS184.1 (gB) ((tkN gB (tkN gB (tkN gB gs)))) (gQ) ta0 (TxA.kp hT hS184 ta0 rfl rfl rfl (by decide +kernel) (by decide +kernel)) (by (try rw [c207]); first | done | with_reducible assumption | omega) (by (try rw [c210]); first | done | with_reducible assumption | omega) (by (try rw [c213]); first | done | with_reducible assumption | omega) (by (try rw [c216]); first | done | assumption) (by (try rw [c218]); first | done | assumption) (by (try rw [((hS184.cell ta0 (by decide +kernel)).trans c20)]); first | done | with_reducible assumption | omega) (fun q0 z0 => by obtain rfl := Option.some.inj ((d24).symm.trans z0); (try rw [((hS184.cell ta23 (by decide +kernel)).trans c26)]); first | done | with_reducible assumption | omega)) ?_
            rintro v225 cn' K' N' I220 R221 L222 ⟨rfl, rfl, rfl, rfl, g223, gl224, h226, dj227, -⟩
            have hS228 := hS184.tr g223 (by decide +kernel) (by decide +kernel)
            have c229 : I220 a23 9 = v37 := (g223.cell ta23 (by decide +kernel)).trans c185
            have c230 : I220 a89 0 = v127 := (g223.cell ta89 (by decide +kernel)).trans c186
            have hO231 : FrO 2 a23 T I0 I220 := hO187.st g223 (by decide +kernel)
            have hL232 := hL188.tr gl224 (by decide +kernel)
            have c233 : L222 a78 v37.toNatClampNeg = y13 := (gl224.cell ta78 (wm_no (by decide +kernel))).trans c189
            have hN234 : NmC L222 R0 a0 gQ := NmC.kp hN190 gl224 hS228.1 ta0 (by decide +kernel) (by decide +kernel)
            rcases dj227 with ⟨p235, p236, p237, p238, p239, p240, p241, p242, p243, p244, -⟩ | ⟨p245, p246, p247, p248, -⟩
            · skip
              obtain ⟨v249, c250⟩ : ∃ v, I220 a0 15 = v := ⟨_, rfl⟩
              rw [c250] at p236
              rw [c205] at p236
              obtain ⟨v251, c252⟩ : ∃ v, I220 a0 8 = v := ⟨_, rfl⟩
              have b253 := iv7_8 hS228.1 ta0 c252
              rw [c252] at p238
              obtain ⟨v254, c255⟩ : ∃ v, I220 a0 9 = v := ⟨_, rfl⟩
              have b256 := iv7_9 hS228.1 ta0 c255
              rw [c255] at p239
              obtain ⟨v257, c258⟩ : ∃ v, I220 a0 2 = v := ⟨_, rfl⟩
              have b259 := iv7_2 hS228.1 ta0 c258
              rw [c258] at p240
              obtain ⟨v260, c261⟩ : ∃ v, I220 a0 4 = v := ⟨_, rfl⟩
              have b262 := iv7_4 hS228.1 ta0 c261
              rw [c261] at p241
              obtain ⟨v263, c264⟩ : ∃ v, I220 a0 3 = v := ⟨_, rfl⟩
              have b265 := iv7_3 hS228.1 ta0 c264
              rw [c264] at p242
              obtain ⟨y266, c267⟩ : ∃ v, L222 a0 5 = v := ⟨_, rfl⟩
              rw [c267] at p243
              obtain ⟨v268, c269⟩ : ∃ v, I220 a0 6 = v := ⟨_, rfl⟩
              rw [c269] at p244
              replace hF := hF.neg (by exact om_9d9e5419 p237)
              replace hP := hP.neg (by exact om_9d9e5419 p237)
              refine q_if_ne 89 dX7_readTurner_84 (by decide) (fun h270 => ?_) (fun h270 => ?_)
              · skip
                refine tr_aload_n dX7_readTurner_89 rfl ?_
                refine tr_aload_n dX7_readTurner_90 rfl ?_
                refine q_getI dX7_readTurner_91 fl7_121 (kR7 hS228.1 ta0) c252 ?_
                refine q_putI dX7_readTurner_94 fl7_254 (kR4 hS228.1 ta89) (Or.inl rfl) hS228 ta89 (iokF rfl) rfl (by decide +kernel) ?_
                intro I271 hS272 e273 f274
                have c275 : I271 a23 9 = v37 := (f274 _ _ (fun q => absurd q.2 (by decide))).trans c229
                have c276 : I271 a89 0 = v127 := (f274 _ _ (fun q => absurd q.2 (by decide))).trans c230
                have c277 : I271 a0 15 = v249 := (f274 _ _ (fun q => absurd q.2 (by decide))).trans c250
                have c278 : I271 a0 8 = v251 := (f274 _ _ (fun q => absurd q.2 (by decide))).trans c252
                have c279 : I271 a0 9 = v254 := (f274 _ _ (fun q => absurd q.2 (by decide))).trans c255
                have c280 : I271 a0 2 = v257 := (f274 _ _ (fun q => absurd q.2 (by decide))).trans c258
                have c281 : I271 a0 4 = v260 := (f274 _ _ (fun q => absurd q.2 (by decide))).trans c261
                have c282 : I271 a0 3 = v263 := (f274 _ _ (fun q => absurd q.2 (by decide))).trans c264
                have c283 : I271 a0 6 = v268 := (f274 _ _ (fun q => absurd q.2 (by decide))).trans c269
                have hO284 : FrO 2 a23 T I0 I271 := hO231.put f274 ta89 (Or.inl (by decide))
                refine tr_aload_n dX7_readTurner_97 rfl ?_
                refine tr_aload_n dX7_readTurner_98 rfl ?_
                refine q_getI dX7_readTurner_99 fl7_129 (kR7 hS272.1 ta0) c279 ?_
                refine q_putI dX7_readTurner_102 fl7_255 (kR4 hS272.1 ta89) (Or.inl rfl) hS272 ta89 (iokF rfl) rfl (by decide +kernel) ?_
                intro I285 hS286 e287 f288
                have c289 : I285 a23 9 = v37 := (f288 _ _ (fun q => absurd q.2 (by decide))).trans c275
                have c290 : I285 a89 0 = v127 := (f288 _ _ (fun q => absurd q.2 (by decide))).trans c276
                have c291 : I285 a0 15 = v249 := (f288 _ _ (fun q => absurd q.2 (by decide))).trans c277
                have c292 : I285 a0 8 = v251 := (f288 _ _ (fun q => absurd q.2 (by decide))).trans c278
                have c293 : I285 a0 9 = v254 := (f288 _ _ (fun q => absurd q.2 (by decide))).trans c279
                have c294 : I285 a0 2 = v257 := (f288 _ _ (fun q => by have z := ta0; rw [q.1, ta89] at z; exact absurd z (by decide))).trans c280
                have c295 : I285 a0 4 = v260 := (f288 _ _ (fun q => absurd q.2 (by decide))).trans c281
                have c296 : I285 a0 3 = v263 := (f288 _ _ (fun q => absurd q.2 (by decide))).trans c282
                have c297 : I285 a0 6 = v268 := (f288 _ _ (fun q => absurd q.2 (by decide))).trans c283
                have c298 : I285 a89 1 = v251 := (f288 _ _ (fun q => absurd q.2 (by decide))).trans e273
                have hO299 : FrO 2 a23 T I0 I285 := hO284.put f288 ta89 (Or.inl (by decide))
                refine tr_aload_n dX7_readTurner_105 rfl ?_
                refine tr_ldcwS dX7_readTurner_106 ld7_256 ?_
                refine q_callVi hE (M' := mX7_takeWord) (as := [_]) dX7_readTurner_109 lk7_126 inX7_takeWord seX7_takeWord myX7_takeWord (by decide) ⟨by decide, by decide⟩ rfl (kR7 hS286.1 ta0) (Nat.le_of_ble_eq_true rfl) rfl rfl (by decide) (by decide) (fk_X7_takeWord hS286.1 (gB) ((tkN gB (tkN gB (tkN gB (tkN gB (tkN gB (tkN gB gs))))))) ta0 (by decide) (TxA.kp hT hS286 ta0 rfl rfl rfl (by decide +kernel) (by decide +kernel)) (by (try rw [c294]); first | done | with_reducible assumption | omega) (by (try rw [c295]); first | done | with_reducible assumption | omega) (by (try rw [c296]); first | done | with_reducible assumption | omega) (by (try rw [c267]); first | done | assumption) (by (try rw [c297]); first | done | assumption) (by (try rw [((hS286.cell ta0 (by decide +kernel)).trans c20)]); first | done | with_reducible assumption | omega)) ?_
                rintro v305 cn' K' N' I300 R301 L302 ⟨rfl, rfl, rfl, rfl, g303, gl304, h306, dj307, -⟩
                (try rw [pk_14] at dj307)
                have hS308 := hS286.tr g303 (by decide +kernel) (by decide +kernel)
                have c309 : I300 a23 9 = v37 := (g303.cell ta23 (by decide +kernel)).trans c289
                have c310 : I300 a89 0 = v127 := (g303.cell ta89 (by decide +kernel)).trans c290
                have c311 : I300 a0 8 = v251 := (g303.cell ta0 (by decide +kernel)).trans c292
                have c312 : I300 a0 9 = v254 := (g303.cell ta0 (by decide +kernel)).trans c293
                have c313 : I300 a89 1 = v251 := (g303.cell ta89 (by decide +kernel)).trans c298
                have c314 : I300 a89 2 = v254 := (g303.cell ta89 (by decide +kernel)).trans e287
                have hO315 : FrO 2 a23 T I0 I300 := hO299.st g303 (by decide +kernel)
                have hL316 := hL232.tr gl304 (by decide +kernel)
                have c317 : L302 a78 v37.toNatClampNeg = y13 := (gl304.cell ta78 (wm_no (by decide +kernel))).trans c233
                have hN318 : NmC L302 R0 a0 gQ := NmC.kp hN234 gl304 hS308.1 ta0 (by decide +kernel) (by decide +kernel)
                rcases dj307 with ⟨p319, p320, p321, p322, p323, p324, p325, p326, p327, -⟩ | ⟨p328, p329, p330, p331, -⟩
                · skip
                  obtain ⟨v332, c333⟩ : ∃ v, I300 a0 15 = v := ⟨_, rfl⟩
                  rw [c333] at p320
                  rw [c291] at p320
                  obtain ⟨v334, c335⟩ : ∃ v, I300 a0 2 = v := ⟨_, rfl⟩
                  have b336 := iv7_2 hS308.1 ta0 c335
                  rw [c335] at p323
                  obtain ⟨v337, c338⟩ : ∃ v, I300 a0 4 = v := ⟨_, rfl⟩
                  have b339 := iv7_4 hS308.1 ta0 c338
                  rw [c338] at p324
                  obtain ⟨v340, c341⟩ : ∃ v, I300 a0 3 = v := ⟨_, rfl⟩
                  have b342 := iv7_3 hS308.1 ta0 c341
                  rw [c341] at p325
                  obtain ⟨y343, c344⟩ : ∃ v, L302 a0 5 = v := ⟨_, rfl⟩
                  rw [c344] at p326
                  obtain ⟨v345, c346⟩ : ∃ v, I300 a0 6 = v := ⟨_, rfl⟩
                  rw [c346] at p327
                  replace hF := hF.neg (by exact om_6653c81a p321 p322)
                  replace hP := hP.neg (by exact om_6653c81a p321 p322)
                  refine q_if_eq 125 dX7_readTurner_112 (by decide) (fun h347 => ?_) (fun h347 => ?_)
                  · skip
                    exfalso; exact om_3624102b p319 h347
                  · skip
                    refine tr_aload_n dX7_readTurner_115 rfl ?_
                    refine q_iconst dX7_readTurner_116 (by decide) ?_
                    intro v348 h349
                    refine q_bipush dX7_readTurner_117 (by decide +kernel) ?_
                    intro v350 h351
                    refine q_callVi hE (M' := mX7_takeWhole) (as := [_, _]) dX7_readTurner_119 lk7_115 inX7_takeWhole seX7_takeWhole myX7_takeWhole (by decide) ⟨by decide, by decide⟩ rfl (kR7 hS308.1 ta0) (Nat.le_of_ble_eq_true rfl) rfl rfl (by decide) (by decide) (fk_X7_takeWhole hS308.1 (gB) ((tkN gB (tkN gB (tkN gB (tkN gB (tkN gB (tkN gB (tkN gB gs)))))))) ta0 (by exact om_07bb78b4 h349) (by exact om_0dd8d653 h351) (TxA.kp hT hS308 ta0 rfl rfl rfl (by decide +kernel) (by decide +kernel)) (by (try rw [c335]); first | done | with_reducible assumption | omega) (by (try rw [c338]); first | done | with_reducible assumption | omega) (by (try rw [c341]); first | done | with_reducible assumption | omega) (by (try rw [c344]); first | done | assumption) (by (try rw [c346]); first | done | assumption) (by (try rw [((hS308.cell ta0 (by decide +kernel)).trans c20)]); first | done | with_reducible assumption | omega)) ?_
                    rintro v357 cn' K' N' I352 R353 L354 ⟨rfl, rfl, rfl, rfl, g355, gl356, h358, dj359, -⟩
                    have hS360 := hS308.tr g355 (by decide +kernel) (by decide +kernel)
                    have c361 : I352 a23 9 = v37 := (g355.cell ta23 (by decide +kernel)).trans c309
                    have c362 : I352 a89 0 = v127 := (g355.cell ta89 (by decide +kernel)).trans c310
                    have c363 : I352 a0 8 = v251 := (g355.cell ta0 (by decide +kernel)).trans c311
                    have c364 : I352 a0 9 = v254 := (g355.cell ta0 (by decide +kernel)).trans c312
                    have c365 : I352 a89 1 = v251 := (g355.cell ta89 (by decide +kernel)).trans c313
                    have c366 : I352 a89 2 = v254 := (g355.cell ta89 (by decide +kernel)).trans c314
                    have hO367 : FrO 2 a23 T I0 I352 := hO315.st g355 (by decide +kernel)
                    have hL368 := hL316.tr gl356 (by decide +kernel)
                    have c369 : L354 a78 v37.toNatClampNeg = y13 := (gl356.cell ta78 (wm_no (by decide +kernel))).trans c317
                    have hN370 : NmC L354 R0 a0 gQ := NmC.kp hN318 gl356 hS360.1 ta0 (by decide +kernel) (by decide +kernel)
                    rcases dj359 with ⟨p371, p372, p373, p374, p375, p376, p377, p378, p379, p380, p381, -⟩ | ⟨p382, p383, p384, p385, -⟩ | ⟨p386, p387, p388, p389, p390, -⟩
                    · skip
                      obtain ⟨v391, c392⟩ : ∃ v, I352 a0 15 = v := ⟨_, rfl⟩
                      rw [c392] at p372
                      rw [c333] at p372
                      obtain ⟨v393, c394⟩ : ∃ v, I352 a0 7 = v := ⟨_, rfl⟩
                      have b395 := iv7_7 hS360.1 ta0 c394
                      rw [c394] at p376
                      obtain ⟨v396, c397⟩ : ∃ v, I352 a0 2 = v := ⟨_, rfl⟩
                      have b398 := iv7_2 hS360.1 ta0 c397
                      rw [c397] at p377
                      obtain ⟨v399, c400⟩ : ∃ v, I352 a0 4 = v := ⟨_, rfl⟩
                      have b401 := iv7_4 hS360.1 ta0 c400
                      rw [c400] at p378
                      obtain ⟨v402, c403⟩ : ∃ v, I352 a0 3 = v := ⟨_, rfl⟩
                      have b404 := iv7_3 hS360.1 ta0 c403
                      rw [c403] at p379
                      obtain ⟨y405, c406⟩ : ∃ v, L354 a0 5 = v := ⟨_, rfl⟩
                      rw [c406] at p380
                      obtain ⟨v407, c408⟩ : ∃ v, I352 a0 6 = v := ⟨_, rfl⟩
                      rw [c408] at p381
                      replace hF := hF.neg (by exact om_10ed11b5 p373)
                      replace hP := hP.neg (by exact om_10ed11b5 p373)
                      replace hF := hF.neg (by exact om_ece2b4bd h349 h351 p374 p375 p376)
                      replace hP := hP.neg (by exact om_ece2b4bd h349 h351 p374 p375 p376)
                      refine q_if_ne 127 dX7_readTurner_122 (by decide) (fun h409 => ?_) (fun h409 => ?_)
                      · skip
                        refine tr_aload_n dX7_readTurner_127 rfl ?_
                        refine tr_aload_n dX7_readTurner_128 rfl ?_
                        refine q_getI dX7_readTurner_129 fl7_109 (kR7 hS360.1 ta0) c394 ?_
                        refine q_putI dX7_readTurner_132 fl7_258 (kR4 hS360.1 ta89) (Or.inl rfl) hS360 ta89 (iokF rfl) rfl (by decide +kernel) ?_
                        intro I410 hS411 e412 f413
                        have c414 : I410 a23 9 = v37 := (f413 _ _ (fun q => absurd q.2 (by decide))).trans c361
                        have c415 : I410 a89 0 = v127 := (f413 _ _ (fun q => absurd q.2 (by decide))).trans c362
                        have c416 : I410 a0 8 = v251 := (f413 _ _ (fun q => absurd q.2 (by decide))).trans c363
                        have c417 : I410 a0 9 = v254 := (f413 _ _ (fun q => absurd q.2 (by decide))).trans c364
                        have c418 : I410 a89 1 = v251 := (f413 _ _ (fun q => absurd q.2 (by decide))).trans c365
                        have c419 : I410 a89 2 = v254 := (f413 _ _ (fun q => absurd q.2 (by decide))).trans c366
                        have c420 : I410 a0 15 = v391 := (f413 _ _ (fun q => absurd q.2 (by decide))).trans c392
                        have c421 : I410 a0 7 = v393 := (f413 _ _ (fun q => absurd q.2 (by decide))).trans c394
                        have c422 : I410 a0 2 = v396 := (f413 _ _ (fun q => absurd q.2 (by decide))).trans c397
                        have c423 : I410 a0 4 = v399 := (f413 _ _ (fun q => absurd q.2 (by decide))).trans c400
                        have c424 : I410 a0 3 = v402 := (f413 _ _ (fun q => by have z := ta0; rw [q.1, ta89] at z; exact absurd z (by decide))).trans c403
                        have c425 : I410 a0 6 = v407 := (f413 _ _ (fun q => absurd q.2 (by decide))).trans c408
                        have hO426 : FrO 2 a23 T I0 I410 := hO367.put f413 ta89 (Or.inl (by decide))
                        refine tr_aload_n dX7_readTurner_135 rfl ?_
                        refine tr_ldcwS dX7_readTurner_136 ld7_260 ?_
                        refine q_callVi hE (M' := mX7_takeWord) (as := [_]) dX7_readTurner_139 lk7_126 inX7_takeWord seX7_takeWord myX7_takeWord (by decide) ⟨by decide, by decide⟩ rfl (kR7 hS411.1 ta0) (Nat.le_of_ble_eq_true rfl) rfl rfl (by decide) (by decide) (fk_X7_takeWord hS411.1 (gB) ((tkN gB (tkN gB (tkN gB (tkN gB (tkN gB (tkN gB (tkN gB (tkN gB gs))))))))) ta0 (by decide) (TxA.kp hT hS411 ta0 rfl rfl rfl (by decide +kernel) (by decide +kernel)) (by (try rw [c422]); first | done | with_reducible assumption | omega) (by (try rw [c423]); first | done | with_reducible assumption | omega) (by (try rw [c424]); first | done | with_reducible assumption | omega) (by (try rw [c406]); first | done | assumption) (by (try rw [c425]); first | done | assumption) (by (try rw [((hS411.cell ta0 (by decide +kernel)).trans c20)]); first | done | with_reducible assumption | omega)) ?_
                        rintro v432 cn' K' N' I427 R428 L429 ⟨rfl, rfl, rfl, rfl, g430, gl431, h433, dj434, -⟩
                        (try rw [pk_24] at dj434)
                        have hS435 := hS411.tr g430 (by decide +kernel) (by decide +kernel)
                        have c436 : I427 a23 9 = v37 := (g430.cell ta23 (by decide +kernel)).trans c414
                        have c437 : I427 a89 0 = v127 := (g430.cell ta89 (by decide +kernel)).trans c415
                        have c438 : I427 a0 8 = v251 := (g430.cell ta0 (by decide +kernel)).trans c416
                        have c439 : I427 a0 9 = v254 := (g430.cell ta0 (by decide +kernel)).trans c417
                        have c440 : I427 a89 1 = v251 := (g430.cell ta89 (by decide +kernel)).trans c418
                        have c441 : I427 a89 2 = v254 := (g430.cell ta89 (by decide +kernel)).trans c419
                        have c442 : I427 a0 7 = v393 := (g430.cell ta0 (by decide +kernel)).trans c421
                        have c443 : I427 a89 3 = v393 := (g430.cell ta89 (by decide +kernel)).trans e412
                        have hO444 : FrO 2 a23 T I0 I427 := hO426.st g430 (by decide +kernel)
                        have hL445 := hL368.tr gl431 (by decide +kernel)
                        have c446 : L429 a78 v37.toNatClampNeg = y13 := (gl431.cell ta78 (wm_no (by decide +kernel))).trans c369
                        have hN447 : NmC L429 R0 a0 gQ := NmC.kp hN370 gl431 hS435.1 ta0 (by decide +kernel) (by decide +kernel)
                        rcases dj434 with ⟨p448, p449, p450, p451, p452, p453, p454, p455, p456, -⟩ | ⟨p457, p458, p459, p460, -⟩
                        · skip
                          obtain ⟨v461, c462⟩ : ∃ v, I427 a0 15 = v := ⟨_, rfl⟩
                          rw [c462] at p449
                          rw [c420] at p449
                          obtain ⟨v463, c464⟩ : ∃ v, I427 a0 2 = v := ⟨_, rfl⟩
                          have b465 := iv7_2 hS435.1 ta0 c464
                          rw [c464] at p452
                          obtain ⟨v466, c467⟩ : ∃ v, I427 a0 4 = v := ⟨_, rfl⟩
                          have b468 := iv7_4 hS435.1 ta0 c467
                          rw [c467] at p453
                          obtain ⟨v469, c470⟩ : ∃ v, I427 a0 3 = v := ⟨_, rfl⟩
                          have b471 := iv7_3 hS435.1 ta0 c470
                          rw [c470] at p454
                          obtain ⟨y472, c473⟩ : ∃ v, L429 a0 5 = v := ⟨_, rfl⟩
                          rw [c473] at p455
                          obtain ⟨v474, c475⟩ : ∃ v, I427 a0 6 = v := ⟨_, rfl⟩
                          rw [c475] at p456
                          replace hF := hF.neg (by exact om_f8dd5453 p450 p451)
                          replace hP := hP.neg (by exact om_f8dd5453 p450 p451)
                          refine q_if_eq 155 dX7_readTurner_142 (by decide) (fun h476 => ?_) (fun h476 => ?_)
                          · skip
                            exfalso; exact om_3624102b p448 h476
                          · skip
                            refine tr_aload_n dX7_readTurner_145 rfl ?_
                            refine q_iconst dX7_readTurner_146 (by decide) ?_
                            intro v477 h478
                            refine q_bipush dX7_readTurner_147 (by decide +kernel) ?_
                            intro v479 h480
                            refine q_callVi hE (M' := mX7_takeWhole) (as := [_, _]) dX7_readTurner_149 lk7_115 inX7_takeWhole seX7_takeWhole myX7_takeWhole (by decide) ⟨by decide, by decide⟩ rfl (kR7 hS435.1 ta0) (Nat.le_of_ble_eq_true rfl) rfl rfl (by decide) (by decide) (fk_X7_takeWhole hS435.1 (gB) ((tkN gB (tkN gB (tkN gB (tkN gB (tkN gB (tkN gB (tkN gB (tkN gB (tkN gB gs)))))))))) ta0 (by exact om_07bb78b4 h478) (by exact om_8dcc09ff h480) (TxA.kp hT hS435 ta0 rfl rfl rfl (by decide +kernel) (by decide +kernel)) (by (try rw [c464]); first | done | with_reducible assumption | omega) (by (try rw [c467]); first | done | with_reducible assumption | omega) (by (try rw [c470]); first | done | with_reducible assumption | omega) (by (try rw [c473]); first | done | assumption) (by (try rw [c475]); first | done | assumption) (by (try rw [((hS435.cell ta0 (by decide +kernel)).trans c20)]); first | done | with_reducible assumption | omega)) ?_
                            rintro v486 cn' K' N' I481 R482 L483 ⟨rfl, rfl, rfl, rfl, g484, gl485, h487, dj488, -⟩
                            have hS489 := hS435.tr g484 (by decide +kernel) (by decide +kernel)
                            have c490 : I481 a23 9 = v37 := (g484.cell ta23 (by decide +kernel)).trans c436
                            have c491 : I481 a89 0 = v127 := (g484.cell ta89 (by decide +kernel)).trans c437
                            have c492 : I481 a0 8 = v251 := (g484.cell ta0 (by decide +kernel)).trans c438
                            have c493 : I481 a0 9 = v254 := (g484.cell ta0 (by decide +kernel)).trans c439
                            have c494 : I481 a89 1 = v251 := (g484.cell ta89 (by decide +kernel)).trans c440
                            have c495 : I481 a89 2 = v254 := (g484.cell ta89 (by decide +kernel)).trans c441
                            have c496 : I481 a89 3 = v393 := (g484.cell ta89 (by decide +kernel)).trans c443
                            have hO497 : FrO 2 a23 T I0 I481 := hO444.st g484 (by decide +kernel)
                            have hL498 := hL445.tr gl485 (by decide +kernel)
                            have c499 : L483 a78 v37.toNatClampNeg = y13 := (gl485.cell ta78 (wm_no (by decide +kernel))).trans c446
                            have hN500 : NmC L483 R0 a0 gQ := NmC.kp hN447 gl485 hS489.1 ta0 (by decide +kernel) (by decide +kernel)
                            rcases dj488 with ⟨p501, p502, p503, p504, p505, p506, p507, p508, p509, p510, p511, -⟩ | ⟨p512, p513, p514, p515, -⟩ | ⟨p516, p517, p518, p519, p520, -⟩
                            · skip
                              obtain ⟨v521, c522⟩ : ∃ v, I481 a0 15 = v := ⟨_, rfl⟩
                              rw [c522] at p502
                              rw [c462] at p502
                              obtain ⟨v523, c524⟩ : ∃ v, I481 a0 7 = v := ⟨_, rfl⟩
                              have b525 := iv7_7 hS489.1 ta0 c524
                              rw [c524] at p506
                              obtain ⟨v526, c527⟩ : ∃ v, I481 a0 2 = v := ⟨_, rfl⟩
                              have b528 := iv7_2 hS489.1 ta0 c527
                              rw [c527] at p507
                              obtain ⟨v529, c530⟩ : ∃ v, I481 a0 4 = v := ⟨_, rfl⟩
                              have b531 := iv7_4 hS489.1 ta0 c530
                              rw [c530] at p508
                              obtain ⟨v532, c533⟩ : ∃ v, I481 a0 3 = v := ⟨_, rfl⟩
                              have b534 := iv7_3 hS489.1 ta0 c533
                              rw [c533] at p509
                              obtain ⟨y535, c536⟩ : ∃ v, L483 a0 5 = v := ⟨_, rfl⟩
                              rw [c536] at p510
                              obtain ⟨v537, c538⟩ : ∃ v, I481 a0 6 = v := ⟨_, rfl⟩
                              rw [c538] at p511
                              replace hF := hF.neg (by exact om_10ed11b5 p503)
                              replace hP := hP.neg (by exact om_10ed11b5 p503)
                              replace hF := hF.neg (by exact om_1226c21c h478 h480 p504 p505 p506)
                              replace hP := hP.neg (by exact om_1226c21c h478 h480 p504 p505 p506)
                              refine q_if_ne 157 dX7_readTurner_152 (by decide) (fun h539 => ?_) (fun h539 => ?_)
                              · skip
                                refine tr_aload_n dX7_readTurner_157 rfl ?_
                                refine tr_aload_n dX7_readTurner_158 rfl ?_
                                refine q_getI dX7_readTurner_159 fl7_109 (kR7 hS489.1 ta0) c524 ?_
                                refine q_putI dX7_readTurner_162 fl7_262 (kR4 hS489.1 ta89) (Or.inl rfl) hS489 ta89 (iokF rfl) rfl (by decide +kernel) ?_
                                intro I540 hS541 e542 f543
                                have c544 : I540 a23 9 = v37 := (f543 _ _ (fun q => absurd q.2 (by decide))).trans c490
                                have c545 : I540 a89 0 = v127 := (f543 _ _ (fun q => absurd q.2 (by decide))).trans c491
                                have c546 : I540 a0 8 = v251 := (f543 _ _ (fun q => absurd q.2 (by decide))).trans c492
                                have c547 : I540 a0 9 = v254 := (f543 _ _ (fun q => absurd q.2 (by decide))).trans c493
                                have c548 : I540 a89 1 = v251 := (f543 _ _ (fun q => absurd q.2 (by decide))).trans c494
                                have c549 : I540 a89 2 = v254 := (f543 _ _ (fun q => absurd q.2 (by decide))).trans c495
                                have c550 : I540 a89 3 = v393 := (f543 _ _ (fun q => absurd q.2 (by decide))).trans c496
                                have c551 : I540 a0 15 = v521 := (f543 _ _ (fun q => absurd q.2 (by decide))).trans c522
                                have c552 : I540 a0 7 = v523 := (f543 _ _ (fun q => absurd q.2 (by decide))).trans c524
                                have c553 : I540 a0 2 = v526 := (f543 _ _ (fun q => absurd q.2 (by decide))).trans c527
                                have c554 : I540 a0 4 = v529 := (f543 _ _ (fun q => by have z := ta0; rw [q.1, ta89] at z; exact absurd z (by decide))).trans c530
                                have c555 : I540 a0 3 = v532 := (f543 _ _ (fun q => absurd q.2 (by decide))).trans c533
                                have c556 : I540 a0 6 = v537 := (f543 _ _ (fun q => absurd q.2 (by decide))).trans c538
                                have hO557 : FrO 2 a23 T I0 I540 := hO497.put f543 ta89 (Or.inl (by decide))
                                refine tr_aload_n dX7_readTurner_165 rfl ?_
                                refine tr_getR dX7_readTurner_166 fl7_22 (kR7 hS541.1 ta0) d24 ?_
                                refine tr_dup dX7_readTurner_169 rfl ?_
                                refine q_getI dX7_readTurner_170 fl7_156 (kR2 hS541.1 ta23) c544 ?_
                                refine q_iconst dX7_readTurner_173 (by decide) ?_
                                intro v558 h559
                                refine q_iaddE dX7_readTurner_174 (by intro j1 j2 j3 j4; exact om_28f1ad20 pre10 b39.2 b39.1 p40 h559) ?_
                                intro v560 h561
                                refine q_putI dX7_readTurner_175 fl7_156 (kR2 hS541.1 ta23) (Or.inl rfl) hS541 ta23 (by show (0 : Int) ≤ v560.toInt ∧ v560.toInt ≤ (5 : Int); exact om_e7ec7de1 pre10 b39.2 b39.1 p40 h559 h561) rfl (by decide +kernel) ?_
                                intro I562 hS563 e564 f565
                                have c566 : I562 a89 0 = v127 := (f565 _ _ (fun q => absurd q.2 (by decide))).trans c545
                                have c567 : I562 a0 8 = v251 := (f565 _ _ (fun q => absurd q.2 (by decide))).trans c546
                                have c568 : I562 a0 9 = v254 := (f565 _ _ (fun q => by have z := ta0; rw [q.1, ta23] at z; exact absurd z (by decide))).trans c547
                                have c569 : I562 a89 1 = v251 := (f565 _ _ (fun q => absurd q.2 (by decide))).trans c548
                                have c570 : I562 a89 2 = v254 := (f565 _ _ (fun q => absurd q.2 (by decide))).trans c549
                                have c571 : I562 a89 3 = v393 := (f565 _ _ (fun q => absurd q.2 (by decide))).trans c550
                                have c572 : I562 a0 15 = v521 := (f565 _ _ (fun q => absurd q.2 (by decide))).trans c551
                                have c573 : I562 a0 7 = v523 := (f565 _ _ (fun q => absurd q.2 (by decide))).trans c552
                                have c574 : I562 a0 2 = v526 := (f565 _ _ (fun q => absurd q.2 (by decide))).trans c553
                                have c575 : I562 a0 4 = v529 := (f565 _ _ (fun q => absurd q.2 (by decide))).trans c554
                                have c576 : I562 a0 3 = v532 := (f565 _ _ (fun q => absurd q.2 (by decide))).trans c555
                                have c577 : I562 a0 6 = v537 := (f565 _ _ (fun q => absurd q.2 (by decide))).trans c556
                                have c578 : I562 a89 4 = v523 := (f565 _ _ (fun q => absurd q.2 (by decide))).trans e542
                                have hO579 : FrO 2 a23 T I0 I562 := hO557.put f565 ta23 (Or.inr rfl)
                                refine tr_aload_n dX7_readTurner_178 rfl ?_
                                refine tr_ldcS dX7_readTurner_179 ld7_204 ?_
                                refine q_callVi hE (M' := mX7_takeWord) (as := [_]) dX7_readTurner_181 lk7_126 inX7_takeWord seX7_takeWord myX7_takeWord (by decide) ⟨by decide, by decide⟩ rfl (kR7 hS563.1 ta0) (Nat.le_of_ble_eq_true rfl) rfl rfl (by decide) (by decide) (fk_X7_takeWord hS563.1 (gB) ((tkN gB (tkN gB (tkN gB (tkN gB (tkN gB (tkN gB (tkN gB (tkN gB (tkN gB (tkN gB gs))))))))))) ta0 (by decide) (TxA.kp hT hS563 ta0 rfl rfl rfl (by decide +kernel) (by decide +kernel)) (by (try rw [c574]); first | done | with_reducible assumption | omega) (by (try rw [c575]); first | done | with_reducible assumption | omega) (by (try rw [c576]); first | done | with_reducible assumption | omega) (by (try rw [c536]); first | done | assumption) (by (try rw [c577]); first | done | assumption) (by (try rw [((hS563.cell ta0 (by decide +kernel)).trans c20)]); first | done | with_reducible assumption | omega)) ?_
                                rintro v585 cn' K' N' I580 R581 L582 ⟨rfl, rfl, rfl, rfl, g583, gl584, h586, dj587, -⟩
                                (try rw [pk_16] at dj587)
                                have hS588 := hS563.tr g583 (by decide +kernel) (by decide +kernel)
                                have c589 : I580 a89 0 = v127 := (g583.cell ta89 (by decide +kernel)).trans c566
                                have c590 : I580 a0 8 = v251 := (g583.cell ta0 (by decide +kernel)).trans c567
                                have c591 : I580 a0 9 = v254 := (g583.cell ta0 (by decide +kernel)).trans c568
                                have c592 : I580 a89 1 = v251 := (g583.cell ta89 (by decide +kernel)).trans c569
                                have c593 : I580 a89 2 = v254 := (g583.cell ta89 (by decide +kernel)).trans c570
                                have c594 : I580 a89 3 = v393 := (g583.cell ta89 (by decide +kernel)).trans c571
                                have c595 : I580 a0 7 = v523 := (g583.cell ta0 (by decide +kernel)).trans c573
                                have c596 : I580 a89 4 = v523 := (g583.cell ta89 (by decide +kernel)).trans c578
                                have c597 : I580 a23 9 = v560 := (g583.cell ta23 (by decide +kernel)).trans e564
                                have hO598 : FrO 2 a23 T I0 I580 := hO579.st g583 (by decide +kernel)
                                have hL599 := hL498.tr gl584 (by decide +kernel)
                                have c600 : L582 a78 v37.toNatClampNeg = y13 := (gl584.cell ta78 (wm_no (by decide +kernel))).trans c499
                                have hN601 : NmC L582 R0 a0 gQ := NmC.kp hN500 gl584 hS588.1 ta0 (by decide +kernel) (by decide +kernel)
                                rcases dj587 with ⟨p602, p603, p604, p605, p606, p607, p608, p609, p610, -⟩ | ⟨p611, p612, p613, p614, -⟩
                                · skip
                                  obtain ⟨v615, c616⟩ : ∃ v, I580 a0 15 = v := ⟨_, rfl⟩
                                  rw [c616] at p603
                                  rw [c572] at p603
                                  obtain ⟨v617, c618⟩ : ∃ v, I580 a0 2 = v := ⟨_, rfl⟩
                                  have b619 := iv7_2 hS588.1 ta0 c618
                                  rw [c618] at p606
                                  obtain ⟨v620, c621⟩ : ∃ v, I580 a0 4 = v := ⟨_, rfl⟩
                                  have b622 := iv7_4 hS588.1 ta0 c621
                                  rw [c621] at p607
                                  obtain ⟨v623, c624⟩ : ∃ v, I580 a0 3 = v := ⟨_, rfl⟩
                                  have b625 := iv7_3 hS588.1 ta0 c624
                                  rw [c624] at p608
                                  obtain ⟨y626, c627⟩ : ∃ v, L582 a0 5 = v := ⟨_, rfl⟩
                                  rw [c627] at p609
                                  obtain ⟨v628, c629⟩ : ∃ v, I580 a0 6 = v := ⟨_, rfl⟩
                                  rw [c629] at p610
                                  replace hF := hF.neg (by exact om_775460f3 p604 p605)
                                  replace hP := hP.neg (by exact om_775460f3 p604 p605)
                                  refine q_if_eq 199 dX7_readTurner_184 (by decide) (fun h630 => ?_) (fun h630 => ?_)
                                  · skip
                                    exfalso; exact om_3624102b p602 h630
                                  · skip
                                    refine tr_aload_n dX7_readTurner_187 rfl ?_
                                    refine tr_aload_n dX7_readTurner_188 rfl ?_
                                    refine q_callVi hE (M' := mX7_readHuts) (as := [_]) dX7_readTurner_189 lk7_264 inX7_readHuts seX7_readHuts myX7_readHuts (by decide) ⟨by decide, by decide⟩ rfl (kR7 hS588.1 ta0) (Nat.le_of_ble_eq_true rfl) rfl rfl (by decide) (by decide) (fk_X7_readHuts hS588.1 (gB) ((tkN gB (tkN gB (tkN gB (tkN gB (tkN gB (tkN gB (tkN gB (tkN gB (tkN gB (tkN gB (tkN gB gs)))))))))))) (gQ) ta0 ta89 (TxA.kp hT hS588 ta0 rfl rfl rfl (by decide +kernel) (by decide +kernel)) (by (try rw [c618]); first | done | with_reducible assumption | omega) (by (try rw [c621]); first | done | with_reducible assumption | omega) (by (try rw [c624]); first | done | with_reducible assumption | omega) (by (try rw [c627]); first | done | assumption) (by (try rw [c629]); first | done | assumption) (by (try rw [((hS588.cell ta0 (by decide +kernel)).trans c20)]); first | done | with_reducible assumption | omega) (fun q0 z0 => by obtain rfl := Option.some.inj ((d24).symm.trans z0); (try rw [((hS588.cell ta23 (by decide +kernel)).trans c30)]); first | done | with_reducible assumption | omega)) ?_
                                    rintro v636 cn' K' N' I631 R632 L633 ⟨rfl, rfl, rfl, rfl, g634, gl635, h637, dj638, -⟩
                                    have hS639 := hS588.tr g634 (by decide +kernel) (by decide +kernel)
                                    have c640 : I631 a89 0 = v127 := (g634.cell ta89 (by decide +kernel)).trans c589
                                    have c641 : I631 a0 8 = v251 := (g634.cell ta0 (by decide +kernel)).trans c590
                                    have c642 : I631 a0 9 = v254 := (g634.cell ta0 (by decide +kernel)).trans c591
                                    have c643 : I631 a89 1 = v251 := (g634.cell ta89 (by decide +kernel)).trans c592
                                    have c644 : I631 a89 2 = v254 := (g634.cell ta89 (by decide +kernel)).trans c593
                                    have c645 : I631 a89 3 = v393 := (g634.cell ta89 (by decide +kernel)).trans c594
                                    have c646 : I631 a0 7 = v523 := (g634.cell ta0 (by decide +kernel)).trans c595
                                    have c647 : I631 a89 4 = v523 := (g634.cell ta89 (by decide +kernel)).trans c596
                                    have c648 : I631 a23 9 = v560 := (g634.cell ta23 (by decide +kernel)).trans c597
                                    have hO649 : FrO 2 a23 T I0 I631 := hO598.st g634 (by decide +kernel)
                                    have hL650 := hL599.tr gl635 (by decide +kernel)
                                    have c651 : L633 a78 v37.toNatClampNeg = y13 := (gl635.cell ta78 (wm_no (by decide +kernel))).trans c600
                                    have hN652 : NmC L633 R0 a0 gQ := NmC.kp hN601 gl635 hS639.1 ta0 (by decide +kernel) (by decide +kernel)
                                    rcases dj638 with ⟨p653, p654, p655, p656, p657, p658, p659, p660, -⟩ | ⟨p661, p662, p663, p664, -⟩
                                    · skip
                                      obtain ⟨v665, c666⟩ : ∃ v, I631 a0 15 = v := ⟨_, rfl⟩
                                      rw [c666] at p654
                                      rw [c616] at p654
                                      obtain ⟨v667, c668⟩ : ∃ v, I631 a0 2 = v := ⟨_, rfl⟩
                                      have b669 := iv7_2 hS639.1 ta0 c668
                                      rw [c668] at p656
                                      obtain ⟨v670, c671⟩ : ∃ v, I631 a0 4 = v := ⟨_, rfl⟩
                                      have b672 := iv7_4 hS639.1 ta0 c671
                                      rw [c671] at p657
                                      obtain ⟨v673, c674⟩ : ∃ v, I631 a0 3 = v := ⟨_, rfl⟩
                                      have b675 := iv7_3 hS639.1 ta0 c674
                                      rw [c674] at p658
                                      obtain ⟨y676, c677⟩ : ∃ v, L633 a0 5 = v := ⟨_, rfl⟩
                                      rw [c677] at p659
                                      obtain ⟨v678, c679⟩ : ∃ v, I631 a0 6 = v := ⟨_, rfl⟩
                                      rw [c679] at p660
                                      refine q_if_eq 199 dX7_readTurner_192 (by decide) (fun h680 => ?_) (fun h680 => ?_)
                                      · skip
                                        exfalso; exact om_3624102b p653 h680
                                      · skip
                                        refine q_iconst dX7_readTurner_195 (by decide) ?_
                                        intro v681 h682
                                        refine tr_goto 200 dX7_readTurner_196 (by decide) ?_
                                        have eF := hF.eq
                                        have eP := hP.eq
                                        have es683 : tuS gB gQ gs = (huS gB gQ 901 0 (tkN gB (tkN gB (tkN gB (tkN gB (tkN gB (tkN gB (tkN gB (tkN gB (tkN gB (tkN gB (tkN gB gs)))))))))))) := by exact om_4ee7209a
                                        obtain ⟨v684, c685⟩ : ∃ v, I631 a0 16 = v := ⟨_, rfl⟩
                                        exact tr_zret hZ dX7_readTurner_200 rfl (ti_b01 (by exact om_f9079521 h682) (by exact om_e6632817 h682)) (by decide) (by decide) ⟨v681, rfl, rfl, rfl, rfl, rfl, hS639, hL650, (by exact om_d753bc65 h682), (fun dr hd => (Option.some.inj (d24.symm.trans hd)) ▸ hO649), (Or.inl ⟨(by (try rw [es683]); first | done | with_reducible assumption | omega), (by (try rw [es683]); (try rw [c666]); (try rw [c44]); first | done | with_reducible assumption | exact om_47445e6d p61 p192 p236 p320 p372 p449 p502 p603 p654), (by (try rw [es683]); first | done | with_reducible assumption | exact om_d12bbb76 p655 eF), (fun q0 z0 => by obtain rfl := Option.some.inj ((d24).symm.trans z0); (try rw [es683]); (try rw [c648]); first | done | with_reducible assumption | exact om_58c7f992 p40 h559 h561), (by (try rw [es683]); (try rw [c668]); first | done | with_reducible assumption | omega), (by (try rw [es683]); (try rw [c671]); first | done | with_reducible assumption | omega), (by (try rw [es683]); (try rw [c674]); first | done | with_reducible assumption | omega), (by (try rw [es683]); (try rw [c677]); first | done | assumption), (by (try rw [es683]); (try rw [c679]); first | done | assumption), (NmC.up4 hN652 d79 (by rw [c651]; exact om_acd7a85a p80) (by have q := ti_nat (i := v37) (by exact om_9d2e1b77 pre10 b39.2 b39.1 p40 h559 h561); exact om_24c30391 p40 h559 h561 q) (by exact om_f07c78a8 p42) (by exact om_92ae6635 pre10 b39.2 b39.1 p40 h559 h561)), trivial⟩), trivial⟩
                                    · skip
                                      obtain ⟨v686, c687⟩ : ∃ v, I631 a0 15 = v := ⟨_, rfl⟩
                                      rw [c687] at p663
                                      obtain ⟨v688, c689⟩ : ∃ v, I631 a0 16 = v := ⟨_, rfl⟩
                                      rw [c689] at p664
                                      refine q_if_eq 199 dX7_readTurner_192 (by decide) (fun h690 => ?_) (fun h690 => ?_)
                                      · skip
                                        refine q_iconst dX7_readTurner_199 (by decide) ?_
                                        intro v691 h692
                                        have eF := hF.eq
                                        have eP := hP.eq
                                        obtain ⟨v693, c694⟩ : ∃ v, I631 a0 2 = v := ⟨_, rfl⟩
                                        have b695 := iv7_2 hS639.1 ta0 c694
                                        obtain ⟨v696, c697⟩ : ∃ v, I631 a0 4 = v := ⟨_, rfl⟩
                                        have b698 := iv7_4 hS639.1 ta0 c697
                                        obtain ⟨v699, c700⟩ : ∃ v, I631 a0 3 = v := ⟨_, rfl⟩
                                        have b701 := iv7_3 hS639.1 ta0 c700
                                        obtain ⟨y702, c703⟩ : ∃ v, L633 a0 5 = v := ⟨_, rfl⟩
                                        obtain ⟨v704, c705⟩ : ∃ v, I631 a0 6 = v := ⟨_, rfl⟩
                                        exact tr_zret hZ dX7_readTurner_200 rfl (ti_b01 (by exact om_d99fa9e4 h692) (by exact om_d3de7ec9 h692)) (by decide) (by decide) ⟨v691, rfl, rfl, rfl, rfl, rfl, hS639, hL650, (by exact om_3b50ecb9 h692), (fun dr hd => (Option.some.inj (d24.symm.trans hd)) ▸ hO649), (Or.inr (⟨(by first | done | with_reducible assumption | omega), (by first | done | with_reducible assumption | exact om_58c4fa3f p662 eF), (by (try rw [c687]); first | done | with_reducible assumption | exact om_2757374c p663 eF), (by (try rw [c689]); first | done | with_reducible assumption | exact om_2757374c p664 eP), trivial⟩)), trivial⟩
                                      · skip
                                        exfalso; exact om_3a97d4a5 p661 h690
                                · skip
                                  obtain ⟨v706, c707⟩ : ∃ v, I580 a0 15 = v := ⟨_, rfl⟩
                                  rw [c707] at p613
                                  obtain ⟨v708, c709⟩ : ∃ v, I580 a0 16 = v := ⟨_, rfl⟩
                                  rw [c709] at p614
                                  replace hF := hF.pos (by exact om_d9bcc258 p612)
                                  replace hP := hP.pos (by exact om_d9bcc258 p612)
                                  refine q_if_eq 199 dX7_readTurner_184 (by decide) (fun h710 => ?_) (fun h710 => ?_)
                                  · skip
                                    refine q_iconst dX7_readTurner_199 (by decide) ?_
                                    intro v711 h712
                                    have eF := hF.eq
                                    have eP := hP.eq
                                    obtain ⟨v713, c714⟩ : ∃ v, I580 a0 2 = v := ⟨_, rfl⟩
                                    have b715 := iv7_2 hS588.1 ta0 c714
                                    obtain ⟨v716, c717⟩ : ∃ v, I580 a0 4 = v := ⟨_, rfl⟩
                                    have b718 := iv7_4 hS588.1 ta0 c717
                                    obtain ⟨v719, c720⟩ : ∃ v, I580 a0 3 = v := ⟨_, rfl⟩
                                    have b721 := iv7_3 hS588.1 ta0 c720
                                    obtain ⟨y722, c723⟩ : ∃ v, L582 a0 5 = v := ⟨_, rfl⟩
                                    obtain ⟨v724, c725⟩ : ∃ v, I580 a0 6 = v := ⟨_, rfl⟩
                                    exact tr_zret hZ dX7_readTurner_200 rfl (ti_b01 (by exact om_d99fa9e4 h712) (by exact om_d3de7ec9 h712)) (by decide) (by decide) ⟨v711, rfl, rfl, rfl, rfl, rfl, hS588, hL599, (by exact om_3b50ecb9 h712), (fun dr hd => (Option.some.inj (d24.symm.trans hd)) ▸ hO598), (Or.inr (⟨(by first | done | with_reducible assumption | omega), (by first | done | with_reducible assumption | exact om_7fac24c5 eF), (by (try rw [c707]); first | done | with_reducible assumption | exact om_3345b898 p613 eF), (by (try rw [c709]); first | done | with_reducible assumption | exact om_2757374c p614 eP), trivial⟩)), trivial⟩
                                  · skip
                                    exfalso; exact om_3a97d4a5 p611 h710
                              · skip
                                exfalso; exact om_3624102b p501 h539
                            · skip
                              obtain ⟨v726, c727⟩ : ∃ v, I481 a0 15 = v := ⟨_, rfl⟩
                              rw [c727] at p514
                              obtain ⟨v728, c729⟩ : ∃ v, I481 a0 16 = v := ⟨_, rfl⟩
                              rw [c729] at p515
                              replace hF := hF.pos (by exact om_73cc8e29 p513)
                              replace hP := hP.pos (by exact om_73cc8e29 p513)
                              refine q_if_ne 157 dX7_readTurner_152 (by decide) (fun h730 => ?_) (fun h730 => ?_)
                              · skip
                                exfalso; exact om_3a97d4a5 p512 h730
                              · skip
                                refine q_iconst dX7_readTurner_155 (by decide) ?_
                                intro v731 h732
                                have eF := hF.eq
                                have eP := hP.eq
                                obtain ⟨v733, c734⟩ : ∃ v, I481 a0 2 = v := ⟨_, rfl⟩
                                have b735 := iv7_2 hS489.1 ta0 c734
                                obtain ⟨v736, c737⟩ : ∃ v, I481 a0 4 = v := ⟨_, rfl⟩
                                have b738 := iv7_4 hS489.1 ta0 c737
                                obtain ⟨v739, c740⟩ : ∃ v, I481 a0 3 = v := ⟨_, rfl⟩
                                have b741 := iv7_3 hS489.1 ta0 c740
                                obtain ⟨y742, c743⟩ : ∃ v, L483 a0 5 = v := ⟨_, rfl⟩
                                obtain ⟨v744, c745⟩ : ∃ v, I481 a0 6 = v := ⟨_, rfl⟩
                                exact tr_zret hZ dX7_readTurner_156 rfl (ti_b01 (by exact om_d99fa9e4 h732) (by exact om_d3de7ec9 h732)) (by decide) (by decide) ⟨v731, rfl, rfl, rfl, rfl, rfl, hS489, hL498, (by exact om_3b50ecb9 h732), (fun dr hd => (Option.some.inj (d24.symm.trans hd)) ▸ hO497), (Or.inr (⟨(by first | done | with_reducible assumption | omega), (by first | done | with_reducible assumption | exact om_7fac24c5 eF), (by (try rw [c727]); first | done | with_reducible assumption | exact om_3345b898 p514 eF), (by (try rw [c729]); first | done | with_reducible assumption | exact om_2757374c p515 eP), trivial⟩)), trivial⟩
                            · skip
                              obtain ⟨v746, c747⟩ : ∃ v, I481 a0 15 = v := ⟨_, rfl⟩
                              rw [c747] at p519
                              obtain ⟨v748, c749⟩ : ∃ v, I481 a0 16 = v := ⟨_, rfl⟩
                              rw [c749] at p520
                              replace hF := hF.neg (by exact om_10ed11b5 p517)
                              replace hP := hP.neg (by exact om_10ed11b5 p517)
                              replace hF := hF.pos (by exact om_696db0e9 h478 h480 p518)
                              replace hP := hP.pos (by exact om_696db0e9 h478 h480 p518)
                              refine q_if_ne 157 dX7_readTurner_152 (by decide) (fun h750 => ?_) (fun h750 => ?_)
                              · skip
                                exfalso; exact om_3a97d4a5 p516 h750
                              · skip
                                refine q_iconst dX7_readTurner_155 (by decide) ?_
                                intro v751 h752
                                have eF := hF.eq
                                have eP := hP.eq
                                obtain ⟨v753, c754⟩ : ∃ v, I481 a0 2 = v := ⟨_, rfl⟩
                                have b755 := iv7_2 hS489.1 ta0 c754
                                obtain ⟨v756, c757⟩ : ∃ v, I481 a0 4 = v := ⟨_, rfl⟩
                                have b758 := iv7_4 hS489.1 ta0 c757
                                obtain ⟨v759, c760⟩ : ∃ v, I481 a0 3 = v := ⟨_, rfl⟩
                                have b761 := iv7_3 hS489.1 ta0 c760
                                obtain ⟨y762, c763⟩ : ∃ v, L483 a0 5 = v := ⟨_, rfl⟩
                                obtain ⟨v764, c765⟩ : ∃ v, I481 a0 6 = v := ⟨_, rfl⟩
                                exact tr_zret hZ dX7_readTurner_156 rfl (ti_b01 (by exact om_d99fa9e4 h752) (by exact om_d3de7ec9 h752)) (by decide) (by decide) ⟨v751, rfl, rfl, rfl, rfl, rfl, hS489, hL498, (by exact om_3b50ecb9 h752), (fun dr hd => (Option.some.inj (d24.symm.trans hd)) ▸ hO497), (Or.inr (⟨(by first | done | with_reducible assumption | omega), (by first | done | with_reducible assumption | exact om_7b84bd42 eF), (by (try rw [c747]); first | done | with_reducible assumption | exact om_46d5da87 p519 eF), (by (try rw [c749]); first | done | with_reducible assumption | exact om_2757374c p520 eP), trivial⟩)), trivial⟩
                        · skip
                          obtain ⟨v766, c767⟩ : ∃ v, I427 a0 15 = v := ⟨_, rfl⟩
                          rw [c767] at p459
                          obtain ⟨v768, c769⟩ : ∃ v, I427 a0 16 = v := ⟨_, rfl⟩
                          rw [c769] at p460
                          replace hF := hF.pos (by exact om_86ff7bc6 p458)
                          replace hP := hP.pos (by exact om_86ff7bc6 p458)
                          refine q_if_eq 155 dX7_readTurner_142 (by decide) (fun h770 => ?_) (fun h770 => ?_)
                          · skip
                            refine q_iconst dX7_readTurner_155 (by decide) ?_
                            intro v771 h772
                            have eF := hF.eq
                            have eP := hP.eq
                            obtain ⟨v773, c774⟩ : ∃ v, I427 a0 2 = v := ⟨_, rfl⟩
                            have b775 := iv7_2 hS435.1 ta0 c774
                            obtain ⟨v776, c777⟩ : ∃ v, I427 a0 4 = v := ⟨_, rfl⟩
                            have b778 := iv7_4 hS435.1 ta0 c777
                            obtain ⟨v779, c780⟩ : ∃ v, I427 a0 3 = v := ⟨_, rfl⟩
                            have b781 := iv7_3 hS435.1 ta0 c780
                            obtain ⟨y782, c783⟩ : ∃ v, L429 a0 5 = v := ⟨_, rfl⟩
                            obtain ⟨v784, c785⟩ : ∃ v, I427 a0 6 = v := ⟨_, rfl⟩
                            exact tr_zret hZ dX7_readTurner_156 rfl (ti_b01 (by exact om_d99fa9e4 h772) (by exact om_d3de7ec9 h772)) (by decide) (by decide) ⟨v771, rfl, rfl, rfl, rfl, rfl, hS435, hL445, (by exact om_3b50ecb9 h772), (fun dr hd => (Option.some.inj (d24.symm.trans hd)) ▸ hO444), (Or.inr (⟨(by first | done | with_reducible assumption | omega), (by first | done | with_reducible assumption | exact om_7fac24c5 eF), (by (try rw [c767]); first | done | with_reducible assumption | exact om_3345b898 p459 eF), (by (try rw [c769]); first | done | with_reducible assumption | exact om_2757374c p460 eP), trivial⟩)), trivial⟩
                          · skip
                            exfalso; exact om_3a97d4a5 p457 h770
                      · skip
                        exfalso; exact om_3624102b p371 h409
                    · skip
                      obtain ⟨v786, c787⟩ : ∃ v, I352 a0 15 = v := ⟨_, rfl⟩
                      rw [c787] at p384
                      obtain ⟨v788, c789⟩ : ∃ v, I352 a0 16 = v := ⟨_, rfl⟩
                      rw [c789] at p385
                      replace hF := hF.pos (by exact om_73cc8e29 p383)
                      replace hP := hP.pos (by exact om_73cc8e29 p383)
                      refine q_if_ne 127 dX7_readTurner_122 (by decide) (fun h790 => ?_) (fun h790 => ?_)
                      · skip
                        exfalso; exact om_3a97d4a5 p382 h790
                      · skip
                        refine q_iconst dX7_readTurner_125 (by decide) ?_
                        intro v791 h792
                        have eF := hF.eq
                        have eP := hP.eq
                        obtain ⟨v793, c794⟩ : ∃ v, I352 a0 2 = v := ⟨_, rfl⟩
                        have b795 := iv7_2 hS360.1 ta0 c794
                        obtain ⟨v796, c797⟩ : ∃ v, I352 a0 4 = v := ⟨_, rfl⟩
                        have b798 := iv7_4 hS360.1 ta0 c797
                        obtain ⟨v799, c800⟩ : ∃ v, I352 a0 3 = v := ⟨_, rfl⟩
                        have b801 := iv7_3 hS360.1 ta0 c800
                        obtain ⟨y802, c803⟩ : ∃ v, L354 a0 5 = v := ⟨_, rfl⟩
                        obtain ⟨v804, c805⟩ : ∃ v, I352 a0 6 = v := ⟨_, rfl⟩
                        exact tr_zret hZ dX7_readTurner_126 rfl (ti_b01 (by exact om_d99fa9e4 h792) (by exact om_d3de7ec9 h792)) (by decide) (by decide) ⟨v791, rfl, rfl, rfl, rfl, rfl, hS360, hL368, (by exact om_3b50ecb9 h792), (fun dr hd => (Option.some.inj (d24.symm.trans hd)) ▸ hO367), (Or.inr (⟨(by first | done | with_reducible assumption | omega), (by first | done | with_reducible assumption | exact om_7fac24c5 eF), (by (try rw [c787]); first | done | with_reducible assumption | exact om_3345b898 p384 eF), (by (try rw [c789]); first | done | with_reducible assumption | exact om_2757374c p385 eP), trivial⟩)), trivial⟩
                    · skip
                      obtain ⟨v806, c807⟩ : ∃ v, I352 a0 15 = v := ⟨_, rfl⟩
                      rw [c807] at p389
                      obtain ⟨v808, c809⟩ : ∃ v, I352 a0 16 = v := ⟨_, rfl⟩
                      rw [c809] at p390
                      replace hF := hF.neg (by exact om_10ed11b5 p387)
                      replace hP := hP.neg (by exact om_10ed11b5 p387)
                      replace hF := hF.pos (by exact om_18ef04d2 h349 h351 p388)
                      replace hP := hP.pos (by exact om_18ef04d2 h349 h351 p388)
                      refine q_if_ne 127 dX7_readTurner_122 (by decide) (fun h810 => ?_) (fun h810 => ?_)
                      · skip
                        exfalso; exact om_3a97d4a5 p386 h810
                      · skip
                        refine q_iconst dX7_readTurner_125 (by decide) ?_
                        intro v811 h812
                        have eF := hF.eq
                        have eP := hP.eq
                        obtain ⟨v813, c814⟩ : ∃ v, I352 a0 2 = v := ⟨_, rfl⟩
                        have b815 := iv7_2 hS360.1 ta0 c814
                        obtain ⟨v816, c817⟩ : ∃ v, I352 a0 4 = v := ⟨_, rfl⟩
                        have b818 := iv7_4 hS360.1 ta0 c817
                        obtain ⟨v819, c820⟩ : ∃ v, I352 a0 3 = v := ⟨_, rfl⟩
                        have b821 := iv7_3 hS360.1 ta0 c820
                        obtain ⟨y822, c823⟩ : ∃ v, L354 a0 5 = v := ⟨_, rfl⟩
                        obtain ⟨v824, c825⟩ : ∃ v, I352 a0 6 = v := ⟨_, rfl⟩
                        exact tr_zret hZ dX7_readTurner_126 rfl (ti_b01 (by exact om_d99fa9e4 h812) (by exact om_d3de7ec9 h812)) (by decide) (by decide) ⟨v811, rfl, rfl, rfl, rfl, rfl, hS360, hL368, (by exact om_3b50ecb9 h812), (fun dr hd => (Option.some.inj (d24.symm.trans hd)) ▸ hO367), (Or.inr (⟨(by first | done | with_reducible assumption | omega), (by first | done | with_reducible assumption | exact om_7b84bd42 eF), (by (try rw [c807]); first | done | with_reducible assumption | exact om_46d5da87 p389 eF), (by (try rw [c809]); first | done | with_reducible assumption | exact om_2757374c p390 eP), trivial⟩)), trivial⟩
                · skip
                  obtain ⟨v826, c827⟩ : ∃ v, I300 a0 15 = v := ⟨_, rfl⟩
                  rw [c827] at p330
                  obtain ⟨v828, c829⟩ : ∃ v, I300 a0 16 = v := ⟨_, rfl⟩
                  rw [c829] at p331
                  replace hF := hF.pos (by exact om_c04a00fc p329)
                  replace hP := hP.pos (by exact om_c04a00fc p329)
                  refine q_if_eq 125 dX7_readTurner_112 (by decide) (fun h830 => ?_) (fun h830 => ?_)
                  · skip
                    refine q_iconst dX7_readTurner_125 (by decide) ?_
                    intro v831 h832
                    have eF := hF.eq
                    have eP := hP.eq
                    obtain ⟨v833, c834⟩ : ∃ v, I300 a0 2 = v := ⟨_, rfl⟩
                    have b835 := iv7_2 hS308.1 ta0 c834
                    obtain ⟨v836, c837⟩ : ∃ v, I300 a0 4 = v := ⟨_, rfl⟩
                    have b838 := iv7_4 hS308.1 ta0 c837
                    obtain ⟨v839, c840⟩ : ∃ v, I300 a0 3 = v := ⟨_, rfl⟩
                    have b841 := iv7_3 hS308.1 ta0 c840
                    obtain ⟨y842, c843⟩ : ∃ v, L302 a0 5 = v := ⟨_, rfl⟩
                    obtain ⟨v844, c845⟩ : ∃ v, I300 a0 6 = v := ⟨_, rfl⟩
                    exact tr_zret hZ dX7_readTurner_126 rfl (ti_b01 (by exact om_d99fa9e4 h832) (by exact om_d3de7ec9 h832)) (by decide) (by decide) ⟨v831, rfl, rfl, rfl, rfl, rfl, hS308, hL316, (by exact om_3b50ecb9 h832), (fun dr hd => (Option.some.inj (d24.symm.trans hd)) ▸ hO315), (Or.inr (⟨(by first | done | with_reducible assumption | omega), (by first | done | with_reducible assumption | exact om_7fac24c5 eF), (by (try rw [c827]); first | done | with_reducible assumption | exact om_3345b898 p330 eF), (by (try rw [c829]); first | done | with_reducible assumption | exact om_2757374c p331 eP), trivial⟩)), trivial⟩
                  · skip
                    exfalso; exact om_3a97d4a5 p328 h830
              · skip
                exfalso; exact om_3624102b p235 h270
            · skip
              obtain ⟨v846, c847⟩ : ∃ v, I220 a0 15 = v := ⟨_, rfl⟩
              rw [c847] at p247
              obtain ⟨v848, c849⟩ : ∃ v, I220 a0 16 = v := ⟨_, rfl⟩
              rw [c849] at p248
              replace hF := hF.pos (by exact om_bcc131c1 p246)
              replace hP := hP.pos (by exact om_bcc131c1 p246)
              refine q_if_ne 89 dX7_readTurner_84 (by decide) (fun h850 => ?_) (fun h850 => ?_)
              · skip
                exfalso; exact om_3a97d4a5 p245 h850
              · skip
                refine q_iconst dX7_readTurner_87 (by decide) ?_
                intro v851 h852
                have eF := hF.eq
                have eP := hP.eq
                obtain ⟨v853, c854⟩ : ∃ v, I220 a0 2 = v := ⟨_, rfl⟩
                have b855 := iv7_2 hS228.1 ta0 c854
                obtain ⟨v856, c857⟩ : ∃ v, I220 a0 4 = v := ⟨_, rfl⟩
                have b858 := iv7_4 hS228.1 ta0 c857
                obtain ⟨v859, c860⟩ : ∃ v, I220 a0 3 = v := ⟨_, rfl⟩
                have b861 := iv7_3 hS228.1 ta0 c860
                obtain ⟨y862, c863⟩ : ∃ v, L222 a0 5 = v := ⟨_, rfl⟩
                obtain ⟨v864, c865⟩ : ∃ v, I220 a0 6 = v := ⟨_, rfl⟩
                exact tr_zret hZ dX7_readTurner_88 rfl (ti_b01 (by exact om_d99fa9e4 h852) (by exact om_d3de7ec9 h852)) (by decide) (by decide) ⟨v851, rfl, rfl, rfl, rfl, rfl, hS228, hL232, (by exact om_3b50ecb9 h852), (fun dr hd => (Option.some.inj (d24.symm.trans hd)) ▸ hO231), (Or.inr (⟨(by first | done | with_reducible assumption | omega), (by first | done | with_reducible assumption | exact om_58c4fa3f p246 eF), (by (try rw [c847]); first | done | with_reducible assumption | exact om_2757374c p247 eF), (by (try rw [c849]); first | done | with_reducible assumption | exact om_2757374c p248 eP), trivial⟩)), trivial⟩
        · skip
          obtain ⟨v866, c867⟩ : ∃ v, I176 a0 15 = v := ⟨_, rfl⟩
          rw [c867] at p202
          obtain ⟨v868, c869⟩ : ∃ v, I176 a0 16 = v := ⟨_, rfl⟩
          rw [c869] at p203
          replace hF := hF.pos (by exact om_8b230aaf p201)
          replace hP := hP.pos (by exact om_8b230aaf p201)
          refine q_if_eq 87 dX7_readTurner_77 (by decide) (fun h870 => ?_) (fun h870 => ?_)
          · skip
            refine q_iconst dX7_readTurner_87 (by decide) ?_
            intro v871 h872
            have eF := hF.eq
            have eP := hP.eq
            obtain ⟨v873, c874⟩ : ∃ v, I176 a0 2 = v := ⟨_, rfl⟩
            have b875 := iv7_2 hS184.1 ta0 c874
            obtain ⟨v876, c877⟩ : ∃ v, I176 a0 4 = v := ⟨_, rfl⟩
            have b878 := iv7_4 hS184.1 ta0 c877
            obtain ⟨v879, c880⟩ : ∃ v, I176 a0 3 = v := ⟨_, rfl⟩
            have b881 := iv7_3 hS184.1 ta0 c880
            obtain ⟨y882, c883⟩ : ∃ v, L178 a0 5 = v := ⟨_, rfl⟩
            obtain ⟨v884, c885⟩ : ∃ v, I176 a0 6 = v := ⟨_, rfl⟩
            exact tr_zret hZ dX7_readTurner_88 rfl (ti_b01 (by exact om_d99fa9e4 h872) (by exact om_d3de7ec9 h872)) (by decide) (by decide) ⟨v871, rfl, rfl, rfl, rfl, rfl, hS184, hL188, (by exact om_3b50ecb9 h872), (fun dr hd => (Option.some.inj (d24.symm.trans hd)) ▸ hO187), (Or.inr (⟨(by first | done | with_reducible assumption | omega), (by first | done | with_reducible assumption | exact om_7fac24c5 eF), (by (try rw [c867]); first | done | with_reducible assumption | exact om_3345b898 p202 eF), (by (try rw [c869]); first | done | with_reducible assumption | exact om_2757374c p203 eP), trivial⟩)), trivial⟩
          · skip
            exfalso; exact om_3a97d4a5 p200 h870
      · skip
        replace hF := hF.pos (by exact om_673f8c18 p129 h142 h143)
        replace hP := hP.pos (by exact om_673f8c18 p129 h142 h143)
        refine tr_aload_n dX7_readTurner_61 rfl ?_
        refine q_iconst dX7_readTurner_62 (by decide) ?_
        intro v886 h887
        refine q_callVi hE (M' := mX7_fail) (as := [_]) dX7_readTurner_63 lk7_64 inX7_fail seX7_fail myX7_fail (by decide) ⟨by decide, by decide⟩ rfl (kR7 hS131.1 ta0) (Nat.le_of_ble_eq_true rfl) rfl rfl (by decide) (by decide) (fk_X7_fail hS131.1  ta0 (by exact om_95922198 h887)) ?_
        rintro v893 cn' K' N' I888 R889 L890 ⟨rfl, rfl, rfl, rfl, rfl, g891, h894, p895, p896, p897, -⟩
        have hS898 := hS131.tr g891 (by decide +kernel) (by decide +kernel)
        have c899 : I888 a23 9 = v37 := (g891.cell ta23 (by decide +kernel)).trans c134
        have c900 : I888 a0 2 = v109 := (g891.cell ta0 (by decide +kernel)).trans c136
        have c901 : I888 a0 4 = v112 := (g891.cell ta0 (by decide +kernel)).trans c137
        have c902 : I888 a0 3 = v115 := (g891.cell ta0 (by decide +kernel)).trans c138
        have c903 : I888 a0 6 = v120 := (g891.cell ta0 (by decide +kernel)).trans c139
        have c904 : I888 a89 0 = v127 := (g891.cell ta89 (by decide +kernel)).trans e132
        have hO905 : FrO 2 a23 T I0 I888 := hO140.st g891 (by decide +kernel)
        obtain ⟨v906, c907⟩ : ∃ v, I888 a0 15 = v := ⟨_, rfl⟩
        rw [c907] at p896
        obtain ⟨v908, c909⟩ : ∃ v, I888 a0 16 = v := ⟨_, rfl⟩
        rw [c909] at p897
        rw [c137] at p897
        have eF := hF.eq
        have eP := hP.eq
        exact tr_zret hZ dX7_readTurner_66 rfl (ti_b01 (by exact om_d99fa9e4 p895) (by exact om_d3de7ec9 p895)) (by decide) (by decide) ⟨v893, rfl, rfl, rfl, rfl, rfl, hS898, hL106, (by exact om_be53a44c h894), (fun dr hd => (Option.some.inj (d24.symm.trans hd)) ▸ hO905), (Or.inr (⟨(by first | done | with_reducible assumption | omega), (by first | done | with_reducible assumption | exact om_7fac24c5 eF), (by (try rw [c907]); first | done | with_reducible assumption | exact om_9adad658 h887 p896 eF), (by (try rw [c909]); first | done | with_reducible assumption | exact om_3998a42e p98 p897 eP), trivial⟩)), trivial⟩
    · skip
      exfalso; exact om_3624102b p60 h77
  · skip
    obtain ⟨v910, c911⟩ : ∃ v, I45 a0 15 = v := ⟨_, rfl⟩
    rw [c911] at p68
    obtain ⟨v912, c913⟩ : ∃ v, I45 a0 16 = v := ⟨_, rfl⟩
    rw [c913] at p69
    replace hF := hF.pos (by exact om_ea380f8a p67)
    replace hP := hP.pos (by exact om_ea380f8a p67)
    refine q_if_ne 9 dX7_readTurner_4 (by decide) (fun h914 => ?_) (fun h914 => ?_)
    · skip
      exfalso; exact om_3a97d4a5 p66 h914
    · skip
      refine q_iconst dX7_readTurner_7 (by decide) ?_
      intro v915 h916
      have eF := hF.eq
      have eP := hP.eq
      exact tr_zret hZ dX7_readTurner_8 rfl (ti_b01 (by exact om_d99fa9e4 h916) (by exact om_d3de7ec9 h916)) (by decide) (by decide) ⟨v915, rfl, rfl, rfl, rfl, rfl, hS53, hL0, (by exact om_3b50ecb9 h916), (fun dr hd => (Option.some.inj (d24.symm.trans hd)) ▸ hO59), (Or.inr (⟨(by first | done | with_reducible assumption | omega), (by first | done | with_reducible assumption | exact om_7fac24c5 eF), (by (try rw [c911]); first | done | with_reducible assumption | exact om_3345b898 p68 eF), (by (try rw [c913]); first | done | with_reducible assumption | exact om_86fa3162 p8 p69 eP), trivial⟩)), trivial⟩
  · skip
    obtain ⟨v917, c918⟩ : ∃ v, I45 a0 15 = v := ⟨_, rfl⟩
    rw [c918] at p73
    obtain ⟨v919, c920⟩ : ∃ v, I45 a0 16 = v := ⟨_, rfl⟩
    rw [c920] at p74
    replace hF := hF.neg (by exact om_e4d065d5 p71)
    replace hP := hP.neg (by exact om_e4d065d5 p71)
    replace hF := hF.pos (by exact om_1b2eae89 p72)
    replace hP := hP.pos (by exact om_1b2eae89 p72)
    refine q_if_ne 9 dX7_readTurner_4 (by decide) (fun h921 => ?_) (fun h921 => ?_)
    · skip
      exfalso; exact om_3a97d4a5 p70 h921
    · skip
      refine q_iconst dX7_readTurner_7 (by decide) ?_
      intro v922 h923
      have eF := hF.eq
      have eP := hP.eq
      exact tr_zret hZ dX7_readTurner_8 rfl (ti_b01 (by exact om_d99fa9e4 h923) (by exact om_d3de7ec9 h923)) (by decide) (by decide) ⟨v922, rfl, rfl, rfl, rfl, rfl, hS53, hL0, (by exact om_3b50ecb9 h923), (fun dr hd => (Option.some.inj (d24.symm.trans hd)) ▸ hO59), (Or.inr (⟨(by first | done | with_reducible assumption | omega), (by first | done | with_reducible assumption | exact om_c731b21c eF), (by (try rw [c918]); first | done | with_reducible assumption | exact om_4684038f p73 eF), (by (try rw [c920]); first | done | with_reducible assumption | exact om_86fa3162 p8 p74 eP), trivial⟩)), trivial⟩
