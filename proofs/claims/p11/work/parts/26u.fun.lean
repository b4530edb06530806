theorem nmF_at {Q : Nat → Int} {b : Nat} {w : Int} : ∀ (k c : Nat), ¬ nmF Q b w k c = -1 → ∃ j : Nat, nmF Q b w k c = (j : Int) ∧ j < c + k ∧ Q (b + j) = w
  | 0, c, h => absurd rfl h
  | k + 1, c, h => by
    rw [nmF] at h ⊢
    by_cases z : Q (b + c) = w
    · rw [if_pos z]; exact ⟨c, rfl, by exact om_97015fbf, z⟩
    · rw [if_neg z] at h ⊢
      obtain ⟨j, h1, h2, h3⟩ := nmF_at k (c + 1) h
      exact ⟨j, h1, by exact om_e425b7f8 h2, h3⟩
theorem fd_num {T : Nat → Nat} {cn : Nat} {K N : Nat → Nat} {d : Int} {I : cz_I} {R : cz_R} {L : cz_L} {m x : Nat} {Q : Nat → Int} {w c : Int} {v s : Int32} (hM : NmM I R L m Q) (hW : Wf T cn K N I R d) (tm : T m = 14) (hF : FdM L R m c w v) (hc : c = Q 3 + Q 4) (h0 : 0 ≤ v.toInt) (hn : ¬ nmI Q 200 (Q 4) w = -1) (hx : R m 32 = some x) (hs : I x v.toNatClampNeg = s) : s.toInt = nmI Q 200 (Q 4) w := by
  obtain ⟨t, ht, -⟩ := rf14_30 hW tm
  obtain ⟨u, hu, -⟩ := rf14_31 hW tm
  have q := hM.1 t u x ht hu hx
  have e : v.toNatClampNeg = v.toInt.toNat := rfl
  rw [e] at hs
  obtain ⟨j, j1, j2, j3⟩ := nmF_at _ _ hn
  have j2' : (j : Int) < Q 4 := by exact om_df7e0328 j2
  rcases hF t ht with ⟨h1, -⟩ | ⟨-, h2, h3⟩
  · exact om_57ad9489 h0 h1
  · rcases q.1 v.toInt.toNat (by exact om_9ff4011b hc h0 j2' h2) with ⟨h4, i, hi, he⟩ | ⟨h4, i, hi, hw, he⟩
    · exact absurd (he.symm.trans (h3.trans j3.symm)) (hM.2.1 i j hi j2')
    · have z : i = j := hM.2.2.1 i j hi j2' (he.symm.trans (h3.trans j3.symm))
      rw [← hs, hw, z]; exact j1.symm
def wik_X12_readRising : List Nat := [968, 969, 970, 971, 972, 973, 974, 3839]
def wrk_X12_readRising : List Nat := []
def wlk_X12_readRising : List Nat := [975]
set_option maxHeartbeats 4000000 in
theorem fk_X12_readRising {l : Launch} {T : Nat → Nat} {cn : Nat} {K N : Nat → Nat} {I0 : cz_I} {R0 : cz_R} {L0 : cz_L} (hW0 : Wf T cn K N I0 R0 0) (gB : cz_B) (gs : Int) (gQ : Nat → Int) {a0 : Nat} (ta0 : T a0 = 15) {a1 : Nat} (ta1 : T a1 = 59) {x2 : Int32} (hx2 : 0 ≤ x2.toInt ∧ x2.toInt ≤ 0) {x3 : Int32} (hx3 : 8 ≤ x3.toInt ∧ x3.toInt ≤ 8) (hT : ∀ t, R0 a0 5 = some t → Tx I0 t gB) (pre0 : (I0 a0 9).toInt = (tkM gB gs)) (pre1 : (I0 a0 9).toInt ≤ 4) (pre2 : (I0 a0 10).toInt = (tkS gB gs)) (pre3 : (I0 a0 11).toInt = (tkG gB gs)) (pre4 : (AtW ((tkK gB gs)) ((L0 a0 15).toInt) ((tkW gB gs)))) (pre5 : (AtV ((tkK gB gs)) ((I0 a0 12).toInt) ((tkV gB gs)))) (pre6 : (AtN ((tkK gB gs)) ((I0 a0 8).toInt) ((tkN gB gs)))) (pre7 : (I0 a0 7).toInt = (gB.2)) (pre8 : ∀ b1, R0 a0 4 = some b1 → (I0 b1 0).toInt = (gQ 0)) (pre9 : (gQ 0) ≥ 1) (nn4 : ∃ b, R0 a0 4 = some b) : ConE l mX12_readRising [.ref a0, .ref a1, .int x2, .int x3] cn K N I0 R0 L0 (ca_i (fun v cn' K' N' I' R' L' => cn = cn' ∧ K = K' ∧ N = N' ∧ R0 = R' ∧ St T cn K N 0 wik_X12_readRising wrk_X12_readRising I0 R0 I' R0 ∧ (0 ≤ v.toInt ∧ v.toInt ≤ 8) ∧ (∀ j : Nat, ((j : Int) < x2.toInt ∨ x2.toInt + 8 ≤ (j : Int)) → I' a1 j = I0 a1 j) ∧ (FrO 59 a1 T I0 I') ∧ ((((riF gB gQ 8 0 gs) = 0) ∧ ((I' a0 13).toInt = (I0 a0 13).toInt) ∧ ((I' a0 9).toInt = (tkM gB (riS gB gQ 8 0 gs))) ∧ ((I' a0 9).toInt ≤ 4) ∧ ((I' a0 10).toInt = (tkS gB (riS gB gQ 8 0 gs))) ∧ ((I' a0 11).toInt = (tkG gB (riS gB gQ 8 0 gs))) ∧ ((AtW ((tkK gB (riS gB gQ 8 0 gs))) ((L' a0 15).toInt) ((tkW gB (riS gB gQ 8 0 gs))))) ∧ ((AtV ((tkK gB (riS gB gQ 8 0 gs))) ((I' a0 12).toInt) ((tkV gB (riS gB gQ 8 0 gs))))) ∧ ((AtN ((tkK gB (riS gB gQ 8 0 gs))) ((I' a0 8).toInt) ((tkN gB (riS gB gQ 8 0 gs))))) ∧ (v.toInt = (riC gB 8 gs)) ∧ LgS T wlk_X12_readRising L0 L' ∧ (∀ k : Nat, (k : Int) < riC gB 8 gs → (I' a1 (x2.toInt.toNat + k)).toInt = tkV gB (it2 gB k gs)) ∧ True) ∨ (((riF gB gQ 8 0 gs) ≠ 0) ∧ ((I' a0 9).toInt = 5) ∧ ((I' a0 13).toInt = (riF gB gQ 8 0 gs)) ∧ ((I' a0 14).toInt = (riP gB gQ 8 0 gs)) ∧ True)) ∧ True)) := by
  refine ConE.of (by decide +kernel) rfl (Nat.le_of_ble_eq_true rfl) rfl (fun X hX hZ hE => ?_)
  subst hX
  have hS0 : St T cn K N 0 wik_X12_readRising wrk_X12_readRising I0 R0 I0 R0 := St.rf0 hW0
  have hL0 : LgS T wlk_X12_readRising L0 L0 := LgS.rf0
  obtain ⟨a11, d12⟩ := nn4
  have ta11 : T a11 = 14 := hW0.rsN ta0 rfl d12
  obtain ⟨v13, c14⟩ : ∃ v, I0 a0 9 = v := ⟨_, rfl⟩
  have b15 := iv15_9 hS0.1 ta0 c14
  have p16 := pre0
  rw [c14] at p16
  have p17 := pre1
  rw [c14] at p17
  obtain ⟨v18, c19⟩ : ∃ v, I0 a0 10 = v := ⟨_, rfl⟩
  have b20 := iv15_10 hS0.1 ta0 c19
  have p21 := pre2
  rw [c19] at p21
  obtain ⟨v22, c23⟩ : ∃ v, I0 a0 11 = v := ⟨_, rfl⟩
  have p24 := pre3
  rw [c23] at p24
  obtain ⟨y25, c26⟩ : ∃ v, L0 a0 15 = v := ⟨_, rfl⟩
  have p27 := pre4
  rw [c26] at p27
  obtain ⟨v28, c29⟩ : ∃ v, I0 a0 12 = v := ⟨_, rfl⟩
  have p30 := pre5
  rw [c29] at p30
  obtain ⟨v31, c32⟩ : ∃ v, I0 a0 8 = v := ⟨_, rfl⟩
  have b33 := iv15_8 hS0.1 ta0 c32
  have p34 := pre6
  rw [c32] at p34
  obtain ⟨v35, c36⟩ : ∃ v, I0 a0 7 = v := ⟨_, rfl⟩
  have b37 := iv15_7 hW0 ta0 c36
  have p38 := pre7
  rw [c36] at p38
  obtain ⟨v39, c40⟩ : ∃ v, I0 a11 0 = v := ⟨_, rfl⟩
  have b41 := iv14_0 hW0 ta11 c40
  have p42 := pre8 _ d12
  rw [c40] at p42
  have p43 := pre9
  obtain ⟨v44, c45⟩ : ∃ v, I0 a0 13 = v := ⟨_, rfl⟩
  have hO0 : FrO 59 a1 T I0 I0 := FrO.rf
  refine q_iconst dX12_readRising_0 (by decide) ?_
  intro v46 h47
  refine tr_istore dX12_readRising_1 (by decide) (by decide) ?_
  refine q_iconst dX12_readRising_3 (by decide) ?_
  intro v48 h49
  refine tr_istore dX12_readRising_4 (by decide) (by decide) ?_
  refine q_iconst dX12_readRising_6 (by decide) ?_
  intro v50 h51
  refine tr_istore dX12_readRising_7 (by decide) (by decide) ?_
  have lp103 : ∀ (fu : Nat) (ls : Nat → Option Value) (v52 : Int32) (v53 : Int32) (v54 : Int32) (I62 : cz_I) (L63 : cz_L) (gs64 : Int) (gr65 : Nat) (v69 : Int32) (v71 : Int32) (v73 : Int32) (v75 : Int32) (y77 : Int64) (v79 : Int32) (v81 : Int32), ls 0 = some (.ref a0) → ls 1 = some (.ref a1) → ls 2 = some (.int x2) → ls 3 = some (.int x3) → ls 4 = some (.int v52) → ls 5 = some (.int v53) → ls 6 = some (.int v54) → St T cn K N 0 wik_X12_readRising wrk_X12_readRising I0 R0 I62 R0 → LgS T wlk_X12_readRising L0 L63 → FrO 59 a1 T I0 I62 → I62 a0 13 = v69 → I62 a0 9 = v71 → I62 a0 10 = v73 → I62 a0 11 = v75 → L63 a0 15 = y77 → I62 a0 12 = v79 → I62 a0 8 = v81 → (riF gB gQ gr65 v53.toInt gs64) = (riF gB gQ 8 0 gs) → (riP gB gQ gr65 v53.toInt gs64) = (riP gB gQ 8 0 gs) → (riS gB gQ gr65 v53.toInt gs64) = (riS gB gQ 8 0 gs) → (riC gB gr65 gs64) + v52.toInt = (riC gB 8 gs) → v54.toInt = 1 → 0 ≤ v53.toInt → v53.toInt ≤ 240 → 0 ≤ v52.toInt → v52.toInt ≤ 8 → ((gr65 : Int)) = -v52.toInt + 8 → v69.toInt = v44.toInt → v71.toInt = (tkM gB gs64) → v71.toInt ≤ 4 → v73.toInt = (tkS gB gs64) → v75.toInt = (tkG gB gs64) → (AtW ((tkK gB gs64)) (y77.toInt) ((tkW gB gs64))) → (AtV ((tkK gB gs64)) (v79.toInt) ((tkV gB gs64))) → (AtN ((tkK gB gs64)) (v81.toInt) ((tkN gB gs64))) → (it2 gB v52.toInt.toNat gs = gs64 ∧ ∀ k : Nat, (k : Int) < v52.toInt → (I62 a1 (x2.toInt.toNat + k)).toInt = tkV gB (it2 gB k gs)) → (∀ j : Nat, ((j : Int) < x2.toInt ∨ x2.toInt + 8 ≤ (j : Int)) → I62 a1 j = I0 a1 j) → (-v52.toInt + 9).toNat < fu → Tr X mX12_readRising 9 ls [] cn K N I62 R0 L63 0 0 := by
    intro fu
    induction fu with
    | zero => intros; rename_i hz; exact absurd hz (Nat.not_lt_zero _)
    | succ fu ih103 =>
      intro ls v52 v53 v54 I62 L63 gs64 gr65 v69 v71 v73 v75 y77 v79 v81 hl55 hl56 hl57 hl58 hl59 hl60 hl61 hS66 hL67 hO68 c70 c72 c74 c76 c78 c80 c82 g83 g84 g85 g86 g87 g88 g89 g90 g91 g92 g93 g94 g95 g96 g97 g98 g99 g100 rw101 rw102 hm103
      have b105 := iv15_9 hS66.1 ta0 c72
      have b106 := iv15_10 hS66.1 ta0 c74
      have b107 := iv15_8 hS66.1 ta0 c82
      rcases Nat.eq_zero_or_pos gr65 with hz108 | hz108
      · skip
        subst hz108
        refine tr_iload dX12_readRising_9 hl61 ?_
        refine q_if_eq 92 dX12_readRising_11 (by decide) (fun h110 => ?_) (fun h110 => ?_)
        · skip
          exfalso; exact om_3624102b g87 h110
        · skip
          refine tr_aload_n dX12_readRising_14 hl55 ?_
          refine q_getI dX12_readRising_15 fl12_99 (kR15 hS66.1 ta0) c72 ?_
          refine q_iconst dX12_readRising_18 (by decide) ?_
          intro v111 h112
          refine q_icmp_eq 92 dX12_readRising_19 (by decide) (fun h113 => ?_) (fun h113 => ?_)
          · skip
            exfalso; exact om_590814ed g94 g95 b105.1 h112 h113
          · skip
            refine tr_aload_n dX12_readRising_22 hl55 ?_
            refine tr_iload dX12_readRising_23 hl60 ?_
            refine tr_aload_n dX12_readRising_25 hl55 ?_
            refine tr_getR dX12_readRising_26 fl12_188 (kR15 hS66.1 ta0) d12 ?_
            refine q_getI dX12_readRising_29 fl12_192 (kR14 hS66.1 ta11) ((hS66.cell ta11 (by decide +kernel)).trans c40) ?_
            refine q_iconst dX12_readRising_32 (by decide) ?_
            intro v114 h115
            refine q_isubE dX12_readRising_33 (by intro j1 j2 j3 j4; exact om_329ab692 pre9 b41.2 b41.1 p42 h115) ?_
            intro v116 h117
            refine q_callVi hE (M' := mX12_bounded) (as := [_, _]) dX12_readRising_34 lk12_153 inX12_bounded seX12_bounded myX12_bounded (by decide) ⟨by decide, by decide⟩ rfl (kR15 hS66.1 ta0) (Nat.le_of_ble_eq_true rfl) rfl rfl (by decide) (by decide) (fk_X12_bounded hS66.1 (gB) (gs64) ta0 (by (try rw [c72]); first | done | with_reducible assumption | omega) (by (try rw [c72]); first | done | with_reducible assumption | omega) (by (try rw [c74]); first | done | with_reducible assumption | omega) (by (try rw [c76]); first | done | with_reducible assumption | omega) (by (try rw [c78]); first | done | assumption) (by (try rw [c80]); first | done | assumption) (by (try rw [c82]); first | done | assumption)) ?_
            rintro v123 cn' K' N' I118 R119 L120 ⟨rfl, rfl, rfl, rfl, rfl, g121, dj124, -⟩
            have hS125 := hS66.tr g121 (by decide +kernel) (by decide +kernel)
            have c126 : I118 a0 10 = v73 := (g121.cell ta0 (by decide +kernel)).trans c74
            have c127 : I118 a0 11 = v75 := (g121.cell ta0 (by decide +kernel)).trans c76
            have c128 : I118 a0 12 = v79 := (g121.cell ta0 (by decide +kernel)).trans c80
            have c129 : I118 a0 8 = v81 := (g121.cell ta0 (by decide +kernel)).trans c82
            have hO130 : FrO 59 a1 T I0 I118 := hO68.st g121 (by decide +kernel)
            rcases dj124 with ⟨p131, p132, p133, p134, p135, p136, p137, p138, p139, p140, p141, p142, -⟩ | ⟨p143, p144, p145, p146, p147, -⟩ | ⟨p148, p149, p150, p151, p152, p153, -⟩
            · skip
              obtain ⟨v154, c155⟩ : ∃ v, I118 a0 13 = v := ⟨_, rfl⟩
              rw [c155] at p135
              rw [c70] at p135
              obtain ⟨v156, c157⟩ : ∃ v, I118 a0 9 = v := ⟨_, rfl⟩
              have b158 := iv15_9 hS125.1 ta0 c157
              rw [c157] at p136
              rw [c157] at p137
              rw [c126] at p138
              rw [c127] at p139
              rw [c78] at p140
              rw [c128] at p141
              rw [c129] at p142
              refine tr_istore dX12_readRising_37 (by decide) (by decide) ?_
              refine tr_iload dX12_readRising_39 hl59 ?_
              refine tr_iload_n dX12_readRising_41 hl58 ?_
              refine q_icmp_ne 50 dX12_readRising_42 (by decide) (fun h159 => ?_) (fun h159 => ?_)
              · skip
                exfalso; exact om_efba7006 hx3.2 hx3.1 g86 g92 h159
              · skip
                refine tr_aload_n dX12_readRising_45 hl55 ?_
                refine q_iconst dX12_readRising_46 (by decide) ?_
                intro v160 h161
                refine q_callVv hE (M' := mX12_flaw) (as := [_]) dX12_readRising_47 lk12_145 inX12_flaw seX12_flaw myX12_flaw (by decide) ⟨by decide, by decide⟩ rfl (kR15 hS125.1 ta0) (Nat.le_of_ble_eq_true rfl) rfl rfl (by decide) (by decide) (fk_X12_flaw hS125.1  ta0 (by exact om_054a361c h161) (by (try rw [c157]); first | done | with_reducible assumption | exact om_25eaf917 g94 g95 b105.1 p136)) ?_
                rintro cn' K' N' I162 R163 L164 ⟨rfl, rfl, rfl, rfl, rfl, g165, p168, p169, p170, -⟩
                have hS171 := hS125.tr g165 (by decide +kernel) (by decide +kernel)
                have c172 : I162 a0 10 = v73 := (g165.cell ta0 (by decide +kernel)).trans c126
                have c173 : I162 a0 11 = v75 := (g165.cell ta0 (by decide +kernel)).trans c127
                have c174 : I162 a0 12 = v79 := (g165.cell ta0 (by decide +kernel)).trans c128
                have c175 : I162 a0 8 = v81 := (g165.cell ta0 (by decide +kernel)).trans c129
                have hO176 : FrO 59 a1 T I0 I162 := hO130.st g165 (by decide +kernel)
                obtain ⟨v177, c178⟩ : ∃ v, I162 a0 9 = v := ⟨_, rfl⟩
                have b179 := iv15_9 hS171.1 ta0 c178
                rw [c178] at p168
                obtain ⟨v180, c181⟩ : ∃ v, I162 a0 13 = v := ⟨_, rfl⟩
                rw [c181] at p169
                obtain ⟨v182, c183⟩ : ∃ v, I162 a0 14 = v := ⟨_, rfl⟩
                rw [c183] at p170
                rw [c126] at p170
                refine tr_aload_n dX12_readRising_50 hl55 ?_
                refine q_callVv hE (M' := mX12_goesOn) (as := []) dX12_readRising_51 lk12_142 inX12_goesOn seX12_goesOn myX12_goesOn (by decide) ⟨by decide, by decide⟩ rfl (kR15 hS171.1 ta0) (Nat.le_of_ble_eq_true rfl) rfl rfl (by decide) (by decide) (k_X12_goesOn hS171.1 ta0) ?_
                rintro cn' K' N' I184 R185 L186 ⟨rfl, rfl, rfl, rfl, g187, p189, p190, p191, w192, -⟩
                have hS193 := hS171.tr g187 (by decide +kernel) (by decide +kernel)
                have c194 : I184 a0 13 = v180 := (g187.cell ta0 (by decide +kernel)).trans c181
                have c195 : I184 a0 14 = v182 := (g187.cell ta0 (by decide +kernel)).trans c183
                obtain ⟨v196, c197⟩ : ∃ v, I184 a0 9 = v := ⟨_, rfl⟩
                have b198 := iv15_9 hS193.1 ta0 c197
                rw [c178] at p189
                rw [c197] at p189
                rw [c178] at p190
                rw [c197] at p190
                obtain ⟨v199, c200⟩ : ∃ v, I184 a0 8 = v := ⟨_, rfl⟩
                have b201 := iv15_8 hS193.1 ta0 c200
                rw [c200] at p191
                rw [c175] at p191
                rw [c194] at p191
                rw [c181] at p191
                have hO202 : FrO 59 a1 T I0 I184 := hO176.st g187 (by decide +kernel)
                have ov203 := w192.over (by rw [c178]; exact om_394b70a2 p168)
                obtain ⟨v204, c205⟩ : ∃ v, I184 a0 9 = v := ⟨_, rfl⟩
                have b206 := iv15_9 hS193.1 ta0 c205
                obtain ⟨v207, c208⟩ : ∃ v, I184 a0 13 = v := ⟨_, rfl⟩
                obtain ⟨v209, c210⟩ : ∃ v, I184 a0 14 = v := ⟨_, rfl⟩
                (try rw [c205] at ov203)
                (try rw [c208] at ov203)
                (try rw [c210] at ov203)
                (try rw [c178] at ov203)
                (try rw [c181] at ov203)
                (try rw [c183] at ov203)
                refine tr_aload_n dX12_readRising_54 hl55 ?_
                refine q_getI dX12_readRising_55 fl12_99 (kR15 hS193.1 ta0) c205 ?_
                refine q_iconst dX12_readRising_58 (by decide) ?_
                intro v211 h212
                refine q_icmp_ne 64 dX12_readRising_59 (by decide) (fun h213 => ?_) (fun h213 => ?_)
                · skip
                  exfalso; exact om_1fa3e129 ov203.1 h212 h213
                · skip
                  refine q_iconst dX12_readRising_62 (by decide) ?_
                  intro v214 h215
                  obtain ⟨v216, c217⟩ : ∃ v, I184 a0 10 = v := ⟨_, rfl⟩
                  have b218 := iv15_10 hS193.1 ta0 c217
                  obtain ⟨v219, c220⟩ : ∃ v, I184 a0 11 = v := ⟨_, rfl⟩
                  obtain ⟨y221, c222⟩ : ∃ v, L186 a0 15 = v := ⟨_, rfl⟩
                  obtain ⟨v223, c224⟩ : ∃ v, I184 a0 12 = v := ⟨_, rfl⟩
                  exact tr_iret hZ dX12_readRising_63 rfl (by decide) (by decide) ⟨v214, rfl, rfl, rfl, rfl, rfl, hS193, (by exact om_7d21acc5 h215), (fun j hj => (Eq.trans ((g187.cell ta1 (wm_no (by decide +kernel))).trans ((g165.cell ta1 (wm_no (by decide +kernel))).trans (g121.cell ta1 (wm_no (by decide +kernel))))) (rw102 j hj))), hO202, (Or.inr (⟨(by rw [← g83]; simp only [riF, ↓reduceIte]; exact om_62e43f65), (by (try rw [c205]); first | done | with_reducible assumption | exact om_394b70a2 ov203.1), (by (try rw [c208]); rw [← g83]; simp only [riF, ↓reduceIte]; exact om_84e7137a p42 h115 h117 p132 p133 p134 h161 p169 ov203.2.1), (by (try rw [c210]); rw [← g84]; simp only [riP, ↓reduceIte]; exact om_1c22ab7e g96 p170 ov203.2.2), trivial⟩)), trivial⟩
            · skip
              obtain ⟨v225, c226⟩ : ∃ v, I118 a0 9 = v := ⟨_, rfl⟩
              have b227 := iv15_9 hS125.1 ta0 c226
              rw [c226] at p145
              obtain ⟨v228, c229⟩ : ∃ v, I118 a0 13 = v := ⟨_, rfl⟩
              rw [c229] at p146
              obtain ⟨v230, c231⟩ : ∃ v, I118 a0 14 = v := ⟨_, rfl⟩
              rw [c231] at p147
              refine tr_istore dX12_readRising_37 (by decide) (by decide) ?_
              refine tr_iload dX12_readRising_39 hl59 ?_
              refine tr_iload_n dX12_readRising_41 hl58 ?_
              refine q_icmp_ne 50 dX12_readRising_42 (by decide) (fun h232 => ?_) (fun h232 => ?_)
              · skip
                exfalso; exact om_efba7006 hx3.2 hx3.1 g86 g92 h232
              · skip
                refine tr_aload_n dX12_readRising_45 hl55 ?_
                refine q_iconst dX12_readRising_46 (by decide) ?_
                intro v233 h234
                refine q_callVv hE (M' := mX12_flaw) (as := [_]) dX12_readRising_47 lk12_145 inX12_flaw seX12_flaw myX12_flaw (by decide) ⟨by decide, by decide⟩ rfl (kR15 hS125.1 ta0) (Nat.le_of_ble_eq_true rfl) rfl rfl (by decide) (by decide) (k_X12_flaw hS125.1 ta0 (by exact om_054a361c h234)) ?_
                rintro cn' K' N' I235 R236 L237 ⟨rfl, rfl, rfl, rfl, rfl, g238, p240, p241, w242, -⟩
                have hS243 := hS125.tr g238 (by decide +kernel) (by decide +kernel)
                have c244 : I235 a0 10 = v73 := (g238.cell ta0 (by decide +kernel)).trans c126
                have c245 : I235 a0 11 = v75 := (g238.cell ta0 (by decide +kernel)).trans c127
                have c246 : I235 a0 12 = v79 := (g238.cell ta0 (by decide +kernel)).trans c128
                have c247 : I235 a0 8 = v81 := (g238.cell ta0 (by decide +kernel)).trans c129
                obtain ⟨v248, c249⟩ : ∃ v, I235 a0 9 = v := ⟨_, rfl⟩
                have b250 := iv15_9 hS243.1 ta0 c249
                rw [c249] at p240
                rw [c247] at p241
                rw [c129] at p241
                have hO251 : FrO 59 a1 T I0 I235 := hO130.st g238 (by decide +kernel)
                have ov252 := w242.over (by rw [c226]; exact om_394b70a2 p145)
                obtain ⟨v253, c254⟩ : ∃ v, I235 a0 9 = v := ⟨_, rfl⟩
                have b255 := iv15_9 hS243.1 ta0 c254
                obtain ⟨v256, c257⟩ : ∃ v, I235 a0 13 = v := ⟨_, rfl⟩
                obtain ⟨v258, c259⟩ : ∃ v, I235 a0 14 = v := ⟨_, rfl⟩
                (try rw [c254] at ov252)
                (try rw [c257] at ov252)
                (try rw [c259] at ov252)
                (try rw [c226] at ov252)
                (try rw [c229] at ov252)
                (try rw [c231] at ov252)
                refine tr_aload_n dX12_readRising_50 hl55 ?_
                refine q_callVv hE (M' := mX12_goesOn) (as := []) dX12_readRising_51 lk12_142 inX12_goesOn seX12_goesOn myX12_goesOn (by decide) ⟨by decide, by decide⟩ rfl (kR15 hS243.1 ta0) (Nat.le_of_ble_eq_true rfl) rfl rfl (by decide) (by decide) (k_X12_goesOn hS243.1 ta0) ?_
                rintro cn' K' N' I260 R261 L262 ⟨rfl, rfl, rfl, rfl, g263, p265, p266, p267, w268, -⟩
                have hS269 := hS243.tr g263 (by decide +kernel) (by decide +kernel)
                have c270 : I260 a0 13 = v256 := (g263.cell ta0 (by decide +kernel)).trans c257
                have c271 : I260 a0 14 = v258 := (g263.cell ta0 (by decide +kernel)).trans c259
                obtain ⟨v272, c273⟩ : ∃ v, I260 a0 9 = v := ⟨_, rfl⟩
                have b274 := iv15_9 hS269.1 ta0 c273
                rw [c254] at p265
                rw [c273] at p265
                rw [c254] at p266
                rw [c273] at p266
                obtain ⟨v275, c276⟩ : ∃ v, I260 a0 8 = v := ⟨_, rfl⟩
                have b277 := iv15_8 hS269.1 ta0 c276
                rw [c276] at p267
                rw [c247] at p267
                rw [c270] at p267
                rw [c257] at p267
                have hO278 : FrO 59 a1 T I0 I260 := hO251.st g263 (by decide +kernel)
                have ov279 := w268.over (by rw [c254]; exact om_394b70a2 ov252.1)
                obtain ⟨v280, c281⟩ : ∃ v, I260 a0 9 = v := ⟨_, rfl⟩
                have b282 := iv15_9 hS269.1 ta0 c281
                obtain ⟨v283, c284⟩ : ∃ v, I260 a0 13 = v := ⟨_, rfl⟩
                obtain ⟨v285, c286⟩ : ∃ v, I260 a0 14 = v := ⟨_, rfl⟩
                (try rw [c281] at ov279)
                (try rw [c284] at ov279)
                (try rw [c286] at ov279)
                (try rw [c254] at ov279)
                (try rw [c257] at ov279)
                (try rw [c259] at ov279)
                refine tr_aload_n dX12_readRising_54 hl55 ?_
                refine q_getI dX12_readRising_55 fl12_99 (kR15 hS269.1 ta0) c281 ?_
                refine q_iconst dX12_readRising_58 (by decide) ?_
                intro v287 h288
                refine q_icmp_ne 64 dX12_readRising_59 (by decide) (fun h289 => ?_) (fun h289 => ?_)
                · skip
                  exfalso; exact om_1fa3e129 ov279.1 h288 h289
                · skip
                  refine q_iconst dX12_readRising_62 (by decide) ?_
                  intro v290 h291
                  obtain ⟨v292, c293⟩ : ∃ v, I260 a0 10 = v := ⟨_, rfl⟩
                  have b294 := iv15_10 hS269.1 ta0 c293
                  obtain ⟨v295, c296⟩ : ∃ v, I260 a0 11 = v := ⟨_, rfl⟩
                  obtain ⟨y297, c298⟩ : ∃ v, L262 a0 15 = v := ⟨_, rfl⟩
                  obtain ⟨v299, c300⟩ : ∃ v, I260 a0 12 = v := ⟨_, rfl⟩
                  exact tr_iret hZ dX12_readRising_63 rfl (by decide) (by decide) ⟨v290, rfl, rfl, rfl, rfl, rfl, hS269, (by exact om_7d21acc5 h291), (fun j hj => (Eq.trans ((g263.cell ta1 (wm_no (by decide +kernel))).trans ((g238.cell ta1 (wm_no (by decide +kernel))).trans (g121.cell ta1 (wm_no (by decide +kernel))))) (rw102 j hj))), hO278, (Or.inr (⟨(by rw [← g83]; simp only [riF, ↓reduceIte]; exact om_24d90ed0 p144), (by (try rw [c281]); first | done | with_reducible assumption | exact om_394b70a2 ov279.1), (by (try rw [c284]); rw [← g83]; simp only [riF, ↓reduceIte]; exact om_1f4892f2 p144 p146 ov252.2.1 ov279.2.1), (by (try rw [c286]); rw [← g84]; simp only [riP, ↓reduceIte]; exact om_1c22ab7e p147 ov252.2.2 ov279.2.2), trivial⟩)), trivial⟩
            · skip
              obtain ⟨v301, c302⟩ : ∃ v, I118 a0 9 = v := ⟨_, rfl⟩
              have b303 := iv15_9 hS125.1 ta0 c302
              rw [c302] at p151
              obtain ⟨v304, c305⟩ : ∃ v, I118 a0 13 = v := ⟨_, rfl⟩
              rw [c305] at p152
              obtain ⟨v306, c307⟩ : ∃ v, I118 a0 14 = v := ⟨_, rfl⟩
              rw [c307] at p153
              refine tr_istore dX12_readRising_37 (by decide) (by decide) ?_
              refine tr_iload dX12_readRising_39 hl59 ?_
              refine tr_iload_n dX12_readRising_41 hl58 ?_
              refine q_icmp_ne 50 dX12_readRising_42 (by decide) (fun h308 => ?_) (fun h308 => ?_)
              · skip
                exfalso; exact om_efba7006 hx3.2 hx3.1 g86 g92 h308
              · skip
                refine tr_aload_n dX12_readRising_45 hl55 ?_
                refine q_iconst dX12_readRising_46 (by decide) ?_
                intro v309 h310
                refine q_callVv hE (M' := mX12_flaw) (as := [_]) dX12_readRising_47 lk12_145 inX12_flaw seX12_flaw myX12_flaw (by decide) ⟨by decide, by decide⟩ rfl (kR15 hS125.1 ta0) (Nat.le_of_ble_eq_true rfl) rfl rfl (by decide) (by decide) (k_X12_flaw hS125.1 ta0 (by exact om_054a361c h310)) ?_
                rintro cn' K' N' I311 R312 L313 ⟨rfl, rfl, rfl, rfl, rfl, g314, p316, p317, w318, -⟩
                have hS319 := hS125.tr g314 (by decide +kernel) (by decide +kernel)
                have c320 : I311 a0 10 = v73 := (g314.cell ta0 (by decide +kernel)).trans c126
                have c321 : I311 a0 11 = v75 := (g314.cell ta0 (by decide +kernel)).trans c127
                have c322 : I311 a0 12 = v79 := (g314.cell ta0 (by decide +kernel)).trans c128
                have c323 : I311 a0 8 = v81 := (g314.cell ta0 (by decide +kernel)).trans c129
                obtain ⟨v324, c325⟩ : ∃ v, I311 a0 9 = v := ⟨_, rfl⟩
                have b326 := iv15_9 hS319.1 ta0 c325
                rw [c325] at p316
                rw [c323] at p317
                rw [c129] at p317
                have hO327 : FrO 59 a1 T I0 I311 := hO130.st g314 (by decide +kernel)
                have ov328 := w318.over (by rw [c302]; exact om_394b70a2 p151)
                obtain ⟨v329, c330⟩ : ∃ v, I311 a0 9 = v := ⟨_, rfl⟩
                have b331 := iv15_9 hS319.1 ta0 c330
                obtain ⟨v332, c333⟩ : ∃ v, I311 a0 13 = v := ⟨_, rfl⟩
                obtain ⟨v334, c335⟩ : ∃ v, I311 a0 14 = v := ⟨_, rfl⟩
                (try rw [c330] at ov328)
                (try rw [c333] at ov328)
                (try rw [c335] at ov328)
                (try rw [c302] at ov328)
                (try rw [c305] at ov328)
                (try rw [c307] at ov328)
                refine tr_aload_n dX12_readRising_50 hl55 ?_
                refine q_callVv hE (M' := mX12_goesOn) (as := []) dX12_readRising_51 lk12_142 inX12_goesOn seX12_goesOn myX12_goesOn (by decide) ⟨by decide, by decide⟩ rfl (kR15 hS319.1 ta0) (Nat.le_of_ble_eq_true rfl) rfl rfl (by decide) (by decide) (k_X12_goesOn hS319.1 ta0) ?_
                rintro cn' K' N' I336 R337 L338 ⟨rfl, rfl, rfl, rfl, g339, p341, p342, p343, w344, -⟩
                have hS345 := hS319.tr g339 (by decide +kernel) (by decide +kernel)
                have c346 : I336 a0 13 = v332 := (g339.cell ta0 (by decide +kernel)).trans c333
                have c347 : I336 a0 14 = v334 := (g339.cell ta0 (by decide +kernel)).trans c335
                obtain ⟨v348, c349⟩ : ∃ v, I336 a0 9 = v := ⟨_, rfl⟩
                have b350 := iv15_9 hS345.1 ta0 c349
                rw [c330] at p341
                rw [c349] at p341
                rw [c330] at p342
                rw [c349] at p342
                obtain ⟨v351, c352⟩ : ∃ v, I336 a0 8 = v := ⟨_, rfl⟩
                have b353 := iv15_8 hS345.1 ta0 c352
                rw [c352] at p343
                rw [c323] at p343
                rw [c346] at p343
                rw [c333] at p343
                have hO354 : FrO 59 a1 T I0 I336 := hO327.st g339 (by decide +kernel)
                have ov355 := w344.over (by rw [c330]; exact om_394b70a2 ov328.1)
                obtain ⟨v356, c357⟩ : ∃ v, I336 a0 9 = v := ⟨_, rfl⟩
                have b358 := iv15_9 hS345.1 ta0 c357
                obtain ⟨v359, c360⟩ : ∃ v, I336 a0 13 = v := ⟨_, rfl⟩
                obtain ⟨v361, c362⟩ : ∃ v, I336 a0 14 = v := ⟨_, rfl⟩
                (try rw [c357] at ov355)
                (try rw [c360] at ov355)
                (try rw [c362] at ov355)
                (try rw [c330] at ov355)
                (try rw [c333] at ov355)
                (try rw [c335] at ov355)
                refine tr_aload_n dX12_readRising_54 hl55 ?_
                refine q_getI dX12_readRising_55 fl12_99 (kR15 hS345.1 ta0) c357 ?_
                refine q_iconst dX12_readRising_58 (by decide) ?_
                intro v363 h364
                refine q_icmp_ne 64 dX12_readRising_59 (by decide) (fun h365 => ?_) (fun h365 => ?_)
                · skip
                  exfalso; exact om_1fa3e129 ov355.1 h364 h365
                · skip
                  refine q_iconst dX12_readRising_62 (by decide) ?_
                  intro v366 h367
                  obtain ⟨v368, c369⟩ : ∃ v, I336 a0 10 = v := ⟨_, rfl⟩
                  have b370 := iv15_10 hS345.1 ta0 c369
                  obtain ⟨v371, c372⟩ : ∃ v, I336 a0 11 = v := ⟨_, rfl⟩
                  obtain ⟨y373, c374⟩ : ∃ v, L338 a0 15 = v := ⟨_, rfl⟩
                  obtain ⟨v375, c376⟩ : ∃ v, I336 a0 12 = v := ⟨_, rfl⟩
                  exact tr_iret hZ dX12_readRising_63 rfl (by decide) (by decide) ⟨v366, rfl, rfl, rfl, rfl, rfl, hS345, (by exact om_7d21acc5 h367), (fun j hj => (Eq.trans ((g339.cell ta1 (wm_no (by decide +kernel))).trans ((g314.cell ta1 (wm_no (by decide +kernel))).trans (g121.cell ta1 (wm_no (by decide +kernel))))) (rw102 j hj))), hO354, (Or.inr (⟨(by rw [← g83]; simp only [riF, ↓reduceIte]; exact om_62e43f65), (by (try rw [c357]); first | done | with_reducible assumption | exact om_394b70a2 ov355.1), (by (try rw [c360]); rw [← g83]; simp only [riF, ↓reduceIte]; exact om_81a00778 p42 h115 h117 p149 p150 p152 ov328.1 ov328.2.1 p342 p341 b350.2 b350.1 ov355.2.1), (by (try rw [c362]); rw [← g84]; simp only [riP, ↓reduceIte]; exact om_1c22ab7e p153 ov328.2.2 ov355.2.2), trivial⟩)), trivial⟩
      · skip
        obtain ⟨gk109, rfl⟩ : ∃ k, gr65 = k + 1 := ⟨gr65 - 1, by exact om_87755ad8 g90 g91 g92 hz108⟩
        refine tr_iload dX12_readRising_9 hl61 ?_
        refine q_if_eq 92 dX12_readRising_11 (by decide) (fun h377 => ?_) (fun h377 => ?_)
        · skip
          exfalso; exact om_3624102b g87 h377
        · skip
          refine tr_aload_n dX12_readRising_14 hl55 ?_
          refine q_getI dX12_readRising_15 fl12_99 (kR15 hS66.1 ta0) c72 ?_
          refine q_iconst dX12_readRising_18 (by decide) ?_
          intro v378 h379
          refine q_icmp_eq 92 dX12_readRising_19 (by decide) (fun h380 => ?_) (fun h380 => ?_)
          · skip
            exfalso; exact om_590814ed g94 g95 b105.1 h379 h380
          · skip
            refine tr_aload_n dX12_readRising_22 hl55 ?_
            refine tr_iload dX12_readRising_23 hl60 ?_
            refine tr_aload_n dX12_readRising_25 hl55 ?_
            refine tr_getR dX12_readRising_26 fl12_188 (kR15 hS66.1 ta0) d12 ?_
            refine q_getI dX12_readRising_29 fl12_192 (kR14 hS66.1 ta11) ((hS66.cell ta11 (by decide +kernel)).trans c40) ?_
            refine q_iconst dX12_readRising_32 (by decide) ?_
            intro v381 h382
            refine q_isubE dX12_readRising_33 (by intro j1 j2 j3 j4; exact om_329ab692 pre9 b41.2 b41.1 p42 h382) ?_
            intro v383 h384
            refine q_callVi hE (M' := mX12_bounded) (as := [_, _]) dX12_readRising_34 lk12_153 inX12_bounded seX12_bounded myX12_bounded (by decide) ⟨by decide, by decide⟩ rfl (kR15 hS66.1 ta0) (Nat.le_of_ble_eq_true rfl) rfl rfl (by decide) (by decide) (fk_X12_bounded hS66.1 (gB) (gs64) ta0 (by (try rw [c72]); first | done | with_reducible assumption | omega) (by (try rw [c72]); first | done | with_reducible assumption | omega) (by (try rw [c74]); first | done | with_reducible assumption | omega) (by (try rw [c76]); first | done | with_reducible assumption | omega) (by (try rw [c78]); first | done | assumption) (by (try rw [c80]); first | done | assumption) (by (try rw [c82]); first | done | assumption)) ?_
            rintro v390 cn' K' N' I385 R386 L387 ⟨rfl, rfl, rfl, rfl, rfl, g388, dj391, -⟩
            have hS392 := hS66.tr g388 (by decide +kernel) (by decide +kernel)
            have c393 : I385 a0 10 = v73 := (g388.cell ta0 (by decide +kernel)).trans c74
            have c394 : I385 a0 11 = v75 := (g388.cell ta0 (by decide +kernel)).trans c76
            have c395 : I385 a0 12 = v79 := (g388.cell ta0 (by decide +kernel)).trans c80
            have c396 : I385 a0 8 = v81 := (g388.cell ta0 (by decide +kernel)).trans c82
            have hO397 : FrO 59 a1 T I0 I385 := hO68.st g388 (by decide +kernel)
            rcases dj391 with ⟨p398, p399, p400, p401, p402, p403, p404, p405, p406, p407, p408, p409, -⟩ | ⟨p410, p411, p412, p413, p414, -⟩ | ⟨p415, p416, p417, p418, p419, p420, -⟩
            · skip
              obtain ⟨v421, c422⟩ : ∃ v, I385 a0 13 = v := ⟨_, rfl⟩
              rw [c422] at p402
              rw [c70] at p402
              obtain ⟨v423, c424⟩ : ∃ v, I385 a0 9 = v := ⟨_, rfl⟩
              have b425 := iv15_9 hS392.1 ta0 c424
              rw [c424] at p403
              rw [c424] at p404
              rw [c393] at p405
              rw [c394] at p406
              rw [c78] at p407
              rw [c395] at p408
              rw [c396] at p409
              refine tr_istore dX12_readRising_37 (by decide) (by decide) ?_
              refine tr_iload dX12_readRising_39 hl59 ?_
              refine tr_iload_n dX12_readRising_41 hl58 ?_
              refine q_icmp_ne 50 dX12_readRising_42 (by decide) (fun h426 => ?_) (fun h426 => ?_)
              · skip
                refine tr_aload_n dX12_readRising_50 hl55 ?_
                have p427 := p409 (by exact om_cab07503 p399)
                refine q_callVv hE (M' := mX12_goesOn) (as := []) dX12_readRising_51 lk12_142 inX12_goesOn seX12_goesOn myX12_goesOn (by decide) ⟨by decide, by decide⟩ rfl (kR15 hS392.1 ta0) (Nat.le_of_ble_eq_true rfl) rfl rfl (by decide) (by decide) (fk_X12_goesOn hS392.1 (gB) ((tkN gB gs64)) ta0 (TxA.kp hT hS392 ta0 rfl rfl rfl (by decide +kernel) (by decide +kernel)) (by (try rw [c396]); first | done | with_reducible assumption | omega) (by (try rw [((hS392.cell ta0 (by decide +kernel)).trans c36)]); first | done | with_reducible assumption | omega) (by (try rw [c424]); first | done | with_reducible assumption | exact om_25eaf917 g94 g95 b105.1 p403)) ?_
                rintro cn' K' N' I428 R429 L430 ⟨rfl, rfl, rfl, rfl, g431, gl432, p434, p435, p436, p437, p438, p439, p440, -⟩
                have hS441 := hS392.tr g431 (by decide +kernel) (by decide +kernel)
                have c442 : I428 a0 13 = v421 := (g431.cell ta0 (by decide +kernel)).trans c422
                have hO443 : FrO 59 a1 T I0 I428 := hO397.st g431 (by decide +kernel)
                have hL444 := hL67.tr gl432 (by decide +kernel)
                obtain ⟨v445, c446⟩ : ∃ v, I428 a0 9 = v := ⟨_, rfl⟩
                have b447 := iv15_9 hS441.1 ta0 c446
                rw [c446] at p434
                rw [c446] at p435
                obtain ⟨v448, c449⟩ : ∃ v, I428 a0 10 = v := ⟨_, rfl⟩
                have b450 := iv15_10 hS441.1 ta0 c449
                rw [c449] at p436
                obtain ⟨v451, c452⟩ : ∃ v, I428 a0 11 = v := ⟨_, rfl⟩
                rw [c452] at p437
                obtain ⟨y453, c454⟩ : ∃ v, L430 a0 15 = v := ⟨_, rfl⟩
                rw [c454] at p438
                obtain ⟨v455, c456⟩ : ∃ v, I428 a0 12 = v := ⟨_, rfl⟩
                rw [c456] at p439
                obtain ⟨v457, c458⟩ : ∃ v, I428 a0 8 = v := ⟨_, rfl⟩
                have b459 := iv15_8 hS441.1 ta0 c458
                rw [c458] at p440
                refine tr_aload_n dX12_readRising_54 hl55 ?_
                refine q_getI dX12_readRising_55 fl12_99 (kR15 hS441.1 ta0) c446 ?_
                refine q_iconst dX12_readRising_58 (by decide) ?_
                intro v460 h461
                refine q_icmp_ne 64 dX12_readRising_59 (by decide) (fun h462 => ?_) (fun h462 => ?_)
                · skip
                  refine tr_aload_n dX12_readRising_64 hl56 ?_
                  refine tr_iload_n dX12_readRising_65 hl57 ?_
                  refine tr_iload dX12_readRising_66 hl59 ?_
                  refine q_iaddE dX12_readRising_68 (by intro j1 j2 j3 j4; exact om_71b9365f hx2.2 hx2.1 g90 g91 g86 g92) ?_
                  intro v463 h464
                  refine tr_iload dX12_readRising_69 rfl ?_
                  refine q_iast dX12_readRising_71 (kR59 hS441.1 ta1) (ti_in (nR59 hS441.1 ta1) (by exact om_87ef5096 hx2.2 hx2.1 g90 g91 g86 g92 h464) (by exact om_5ea41d2a hx2.2 hx2.1 g90 g91 g86 g92 h464)) hS441 ta1 (by show (0 : Int) ≤ v390.toInt ∧ v390.toInt ≤ (239 : Int); exact om_b00d04b4 pre9 b41.2 b41.1 p42 g88 g89 h382 h384 p398 p400 p401) rfl (by rfl) ?_
                  intro I465 hS466 e468 f467
                  have c469 : I465 a0 13 = v421 := (f467 _ _ (fun q => by have z := ta0; rw [q.1, ta1] at z; exact absurd z (by decide))).trans c442
                  have c470 : I465 a0 9 = v445 := (f467 _ _ (fun q => by have z := ta0; rw [q.1, ta1] at z; exact absurd z (by decide))).trans c446
                  have c471 : I465 a0 10 = v448 := (f467 _ _ (fun q => by have z := ta0; rw [q.1, ta1] at z; exact absurd z (by decide))).trans c449
                  have c472 : I465 a0 11 = v451 := (f467 _ _ (fun q => by have z := ta0; rw [q.1, ta1] at z; exact absurd z (by decide))).trans c452
                  have c473 : I465 a0 12 = v455 := (f467 _ _ (fun q => by have z := ta0; rw [q.1, ta1] at z; exact absurd z (by decide))).trans c456
                  have c474 : I465 a0 8 = v457 := (f467 _ _ (fun q => by have z := ta0; rw [q.1, ta1] at z; exact absurd z (by decide))).trans c458
                  have hO475 : FrO 59 a1 T I0 I465 := hO443.put f467 ta1 (Or.inr rfl)
                  refine q_iincE dX12_readRising_72 hl59 (by decide) (by decide) (by intro j1 j2; exact om_c5dc60bd hx2.2 hx2.1 g90 g91 g86 g92 h464) ?_
                  intro v476 h477
                  refine tr_iload dX12_readRising_75 rfl ?_
                  refine q_iconst dX12_readRising_77 (by decide) ?_
                  intro v478 h479
                  refine q_iaddE dX12_readRising_78 (by intro j1 j2 j3 j4; exact om_c223b25f pre9 b41.2 b41.1 p42 g88 g89 h382 h384 p398 p400 p401 h479 j1 j2) ?_
                  intro v480 h481
                  refine tr_istore dX12_readRising_79 (by decide) (by decide) ?_
                  refine tr_aload_n dX12_readRising_81 hl55 ?_
                  refine q_bipush dX12_readRising_82 (by decide +kernel) ?_
                  intro v482 h483
                  refine q_callVi hE (M' := mX12_eatsSign) (as := [_]) dX12_readRising_84 lk12_221 inX12_eatsSign seX12_eatsSign myX12_eatsSign (by decide) ⟨by decide, by decide⟩ rfl (kR15 hS466.1 ta0) (Nat.le_of_ble_eq_true rfl) rfl rfl (by decide) (by decide) (fk_X12_eatsSign hS466.1 (gB) ((tkN gB gs64)) ta0 (TxA.kp hT hS466 ta0 rfl rfl rfl (by decide +kernel) (by decide +kernel)) (by (try rw [c470]); first | done | with_reducible assumption | omega) (by (try rw [c470]); first | done | with_reducible assumption | omega) (by (try rw [c471]); first | done | with_reducible assumption | omega) (by (try rw [c472]); first | done | with_reducible assumption | omega) (by (try rw [c454]); first | done | assumption) (by (try rw [c473]); first | done | assumption) (by (try rw [c474]); first | done | assumption) (by (try rw [((hS466.cell ta0 (by decide +kernel)).trans c36)]); first | done | with_reducible assumption | omega) (by first | done | with_reducible assumption | exact om_00f2e567 h483)) ?_
                  rintro v489 cn' K' N' I484 R485 L486 ⟨rfl, rfl, rfl, rfl, g487, gl488, h490, dj491, -⟩
                  have hS492 := hS466.tr g487 (by decide +kernel) (by decide +kernel)
                  have c493 : I484 a0 13 = v421 := (g487.cell ta0 (by decide +kernel)).trans c469
                  have hO494 : FrO 59 a1 T I0 I484 := hO475.st g487 (by decide +kernel)
                  have hL495 := hL444.tr gl488 (by decide +kernel)
                  rcases dj491 with ⟨p496, p497, p498, p499, p500, p501, p502, p503, p504, p505, -⟩ | ⟨p506, p507, p508, p509, p510, p511, p512, p513, p514, p515, -⟩
                  · skip
                    rw [c493] at p498
                    rw [c469] at p498
                    obtain ⟨v516, c517⟩ : ∃ v, I484 a0 9 = v := ⟨_, rfl⟩
                    have b518 := iv15_9 hS492.1 ta0 c517
                    rw [c517] at p499
                    rw [c517] at p500
                    obtain ⟨v519, c520⟩ : ∃ v, I484 a0 10 = v := ⟨_, rfl⟩
                    have b521 := iv15_10 hS492.1 ta0 c520
                    rw [c520] at p501
                    obtain ⟨v522, c523⟩ : ∃ v, I484 a0 11 = v := ⟨_, rfl⟩
                    rw [c523] at p502
                    obtain ⟨y524, c525⟩ : ∃ v, L486 a0 15 = v := ⟨_, rfl⟩
                    rw [c525] at p503
                    obtain ⟨v526, c527⟩ : ∃ v, I484 a0 12 = v := ⟨_, rfl⟩
                    rw [c527] at p504
                    obtain ⟨v528, c529⟩ : ∃ v, I484 a0 8 = v := ⟨_, rfl⟩
                    have b530 := iv15_8 hS492.1 ta0 c529
                    rw [c529] at p505
                    refine tr_istore dX12_readRising_87 (by decide) (by decide) ?_
                    refine tr_goto 9 dX12_readRising_89 (by decide) ?_
                    exact ih103 _ v476 v480 v489 I484 L486 ((tkN gB (tkN gB gs64))) (gk109) v421 v516 v519 v522 y524 v526 v528 hl55 hl56 hl57 hl58 rfl rfl rfl hS492 hL495 hO494 c493 c517 c520 c523 c525 c527 c529 (by rw [← g83]; simp only [riF, ↓reduceIte]; rw [show v480.toInt = tkV gB gs64 + 1 by exact om_58c7f992 p398 h479 h481]; repeat' (first | split | omega)) (by rw [← g84]; simp only [riP, ↓reduceIte]; rw [show v480.toInt = tkV gB gs64 + 1 by exact om_58c7f992 p398 h479 h481]; repeat' (first | split | omega)) (by rw [← g85]; simp only [riS, ↓reduceIte]; rw [show v480.toInt = tkV gB gs64 + 1 by exact om_58c7f992 p398 h479 h481]; repeat' (first | split | omega)) (by rw [← g86]; simp only [riC, ↓reduceIte]; exact om_9f3588c1 hx2.2 hx2.1 g86 g92 h464 h477 h483 p497) (by exact om_ee8a1e2d p496) (by exact om_63134851 g88 g89 p398 p400 h479 h481) (by exact om_8691eab6 pre9 b41.2 b41.1 p42 h382 h384 p398 p401 h479 h481) (by exact om_03b5ca9a hx2.2 hx2.1 g90 g91 g86 g92 h464 h477) (by exact om_c557723f hx2.2 hx2.1 g90 g91 g86 g92 h464 h477) (by exact om_3760a549 hx2.2 hx2.1 g86 g92 h464 h477) (by exact om_9fa72578 g93 p402) (by exact om_acd7a85a p499) (by exact om_fc4b6669 p500) (by exact om_acd7a85a p501) (by exact om_acd7a85a p502) (by assumption) (by assumption) (by assumption) ⟨by rw [show v476.toInt.toNat = v52.toInt.toNat + 1 by exact om_820901f4 hx2.2 hx2.1 g90 g91 g86 g92 h464 h477, it2_on, rw101.1], fun k hk => by by_cases z : (k : Int) < v52.toInt; exact (congrArg Int32.toInt ((g487.cell ta1 (wm_no (by decide +kernel))).trans ((f467 _ _ (fun q => by have z1 := q.2; have z3 := ti_nat (i := v463) (by exact om_b40c8796 hx2.2 hx2.1 g90 g91 g86 g92 h464 h477); exact om_b2bd117f hx2.2 hx2.1 g86 g92 h464 h477 z q.2 z3)).trans ((g431.cell ta1 (wm_no (by decide +kernel))).trans (g388.cell ta1 (wm_no (by decide +kernel))))))).trans (rw101.2 k z); have y := ti_nat (i := v463) (by exact om_2324e68c hx2.2 hx2.1 g90 g91 g86 g92 h464 h477 hk z); have hk2 : (k : Int) = v52.toInt := (by exact om_03ec7c80 hx2.2 hx2.1 g86 g92 h464 h477 hk z); rw [show x2.toInt.toNat + k = v463.toNatClampNeg by exact om_05f77db7 hx2.2 hx2.1 g86 g92 h464 h477 hk z y, show I484 a1 v463.toNatClampNeg = _ from (Eq.trans (g487.cell ta1 (wm_no (by decide +kernel))) e468), show k = v52.toInt.toNat by exact om_27d4b668 hx2.2 hx2.1 g90 g91 g86 g92 h464 h477 hk z y, rw101.1]; exact om_acd7a85a p398⟩ (fun j hj => (Eq.trans ((g487.cell ta1 (wm_no (by decide +kernel))).trans ((f467 _ _ (fun q => by have z1 := q.2; have z3 := ti_nat (i := v463) (by exact om_b40c8796 hx2.2 hx2.1 g90 g91 g86 g92 h464 h477); exact om_14ca88b0 hx2.2 hx2.1 g90 g91 g86 g92 h464 h477 hj q.2 z3)).trans ((g431.cell ta1 (wm_no (by decide +kernel))).trans (g388.cell ta1 (wm_no (by decide +kernel)))))) (rw102 j hj))) (by exact om_aaca84c3 hx2.2 hx2.1 hx3.2 hx3.1 g87 g90 g91 g94 g95 hm103 b105.1 g86 g92 h377 h379 h380 p403 h426 p435 p434 b447.1 h461 h462 h464 h477)
                  · skip
                    rw [c493] at p508
                    rw [c469] at p508
                    obtain ⟨v531, c532⟩ : ∃ v, I484 a0 9 = v := ⟨_, rfl⟩
                    have b533 := iv15_9 hS492.1 ta0 c532
                    rw [c532] at p509
                    rw [c532] at p510
                    obtain ⟨v534, c535⟩ : ∃ v, I484 a0 10 = v := ⟨_, rfl⟩
                    have b536 := iv15_10 hS492.1 ta0 c535
                    rw [c535] at p511
                    obtain ⟨v537, c538⟩ : ∃ v, I484 a0 11 = v := ⟨_, rfl⟩
                    rw [c538] at p512
                    obtain ⟨y539, c540⟩ : ∃ v, L486 a0 15 = v := ⟨_, rfl⟩
                    rw [c540] at p513
                    obtain ⟨v541, c542⟩ : ∃ v, I484 a0 12 = v := ⟨_, rfl⟩
                    rw [c542] at p514
                    obtain ⟨v543, c544⟩ : ∃ v, I484 a0 8 = v := ⟨_, rfl⟩
                    have b545 := iv15_8 hS492.1 ta0 c544
                    rw [c544] at p515
                    refine tr_istore dX12_readRising_87 (by decide) (by decide) ?_
                    refine tr_goto 9 dX12_readRising_89 (by decide) ?_
                    refine tr_iload dX12_readRising_9 rfl ?_
                    refine q_if_eq 92 dX12_readRising_11 (by decide) (fun h546 => ?_) (fun h546 => ?_)
                    · skip
                      refine tr_iload dX12_readRising_92 rfl ?_
                      have es547 : riS gB gQ 8 0 gs = (tkN gB gs64) := by rw [← g85]; simp only [riS, ↓reduceIte]; exact om_f7ae9107 h483 p507
                      obtain ⟨v548, c549⟩ : ∃ v, I484 a0 14 = v := ⟨_, rfl⟩
                      exact tr_iret hZ dX12_readRising_94 rfl (by decide) (by decide) ⟨v476, rfl, rfl, rfl, rfl, rfl, hS492, (by exact om_b1be434d hx2.2 hx2.1 g90 g91 g86 g92 h464 h477), (fun j hj => (Eq.trans ((g487.cell ta1 (wm_no (by decide +kernel))).trans ((f467 _ _ (fun q => by have z1 := q.2; have z3 := ti_nat (i := v463) (by exact om_b40c8796 hx2.2 hx2.1 g90 g91 g86 g92 h464 h477); exact om_14ca88b0 hx2.2 hx2.1 g90 g91 g86 g92 h464 h477 hj q.2 z3)).trans ((g431.cell ta1 (wm_no (by decide +kernel))).trans (g388.cell ta1 (wm_no (by decide +kernel)))))) (rw102 j hj))), hO494, (Or.inl ⟨(by rw [← g83]; simp only [riF, ↓reduceIte]; exact om_bd7149ef p42 h382 h384 p398 p399 p400 p401 h479 h481 h483 p507), (by (try rw [es547]); (try rw [c493]); (try rw [c45]); first | done | with_reducible assumption | exact om_9fa72578 g93 p402), (by (try rw [es547]); (try rw [c532]); first | done | with_reducible assumption | omega), (by (try rw [es547]); (try rw [c532]); first | done | with_reducible assumption | omega), (by (try rw [es547]); (try rw [c535]); first | done | with_reducible assumption | omega), (by (try rw [es547]); (try rw [c538]); first | done | with_reducible assumption | omega), (by (try rw [es547]); (try rw [c540]); first | done | assumption), (by (try rw [es547]); (try rw [c542]); first | done | assumption), (by (try rw [es547]); (try rw [c544]); first | done | assumption), (by rw [← g86]; simp only [riC, ↓reduceIte]; exact om_96bdc018 hx2.2 hx2.1 g86 g92 h464 h477 h483 p507), hL495, (fun k hk => by have hc : riC gB 8 gs = v52.toInt + 1 := (by rw [← g86]; simp only [riC, ↓reduceIte]; exact om_71fc3a63 h483 p507); by_cases z : (k : Int) < v52.toInt; exact (congrArg Int32.toInt ((g487.cell ta1 (wm_no (by decide +kernel))).trans ((f467 _ _ (fun q => by have z1 := q.2; have z3 := ti_nat (i := v463) (by exact om_b40c8796 hx2.2 hx2.1 g90 g91 g86 g92 h464 h477); exact om_b2bd117f hx2.2 hx2.1 g86 g92 h464 h477 z q.2 z3)).trans ((g431.cell ta1 (wm_no (by decide +kernel))).trans (g388.cell ta1 (wm_no (by decide +kernel))))))).trans (rw101.2 k z); have y := ti_nat (i := v463) (by exact om_c0ebbbfd hx2.2 hx2.1 g90 g91 g86 g92 h464 h477 hk hc z); have hk2 : (k : Int) = v52.toInt := (by exact om_88fed574 hx2.2 hx2.1 g86 g92 h464 h477 hk hc z); rw [show x2.toInt.toNat + k = v463.toNatClampNeg by exact om_f1c46432 hx2.2 hx2.1 g86 g92 h464 h477 hk hc z y, show I484 a1 v463.toNatClampNeg = _ from (Eq.trans (g487.cell ta1 (wm_no (by decide +kernel))) e468), show k = v52.toInt.toNat by exact om_46a2f3c1 hx2.2 hx2.1 g90 g91 g86 g92 h464 h477 hk hc z y, rw101.1]; exact om_acd7a85a p398), trivial⟩), trivial⟩
                    · skip
                      exfalso; exact om_3a97d4a5 p506 h546
                · skip
                  exfalso; exact om_99cda0b7 p435 p434 b447.1 h461 h462
              · skip
                exfalso; exact om_790212d5 hx3.2 hx3.1 g90 g91 g86 g92 h426
            · skip
              obtain ⟨v550, c551⟩ : ∃ v, I385 a0 9 = v := ⟨_, rfl⟩
              have b552 := iv15_9 hS392.1 ta0 c551
              rw [c551] at p412
              obtain ⟨v553, c554⟩ : ∃ v, I385 a0 13 = v := ⟨_, rfl⟩
              rw [c554] at p413
              obtain ⟨v555, c556⟩ : ∃ v, I385 a0 14 = v := ⟨_, rfl⟩
              rw [c556] at p414
              refine tr_istore dX12_readRising_37 (by decide) (by decide) ?_
              refine tr_iload dX12_readRising_39 hl59 ?_
              refine tr_iload_n dX12_readRising_41 hl58 ?_
              refine q_icmp_ne 50 dX12_readRising_42 (by decide) (fun h557 => ?_) (fun h557 => ?_)
              · skip
                refine tr_aload_n dX12_readRising_50 hl55 ?_
                refine q_callVv hE (M' := mX12_goesOn) (as := []) dX12_readRising_51 lk12_142 inX12_goesOn seX12_goesOn myX12_goesOn (by decide) ⟨by decide, by decide⟩ rfl (kR15 hS392.1 ta0) (Nat.le_of_ble_eq_true rfl) rfl rfl (by decide) (by decide) (k_X12_goesOn hS392.1 ta0) ?_
                rintro cn' K' N' I558 R559 L560 ⟨rfl, rfl, rfl, rfl, g561, p563, p564, p565, w566, -⟩
                have hS567 := hS392.tr g561 (by decide +kernel) (by decide +kernel)
                have c568 : I558 a0 13 = v553 := (g561.cell ta0 (by decide +kernel)).trans c554
                have c569 : I558 a0 14 = v555 := (g561.cell ta0 (by decide +kernel)).trans c556
                obtain ⟨v570, c571⟩ : ∃ v, I558 a0 9 = v := ⟨_, rfl⟩
                have b572 := iv15_9 hS567.1 ta0 c571
                rw [c551] at p563
                rw [c571] at p563
                rw [c551] at p564
                rw [c571] at p564
                obtain ⟨v573, c574⟩ : ∃ v, I558 a0 8 = v := ⟨_, rfl⟩
                have b575 := iv15_8 hS567.1 ta0 c574
                rw [c574] at p565
                rw [c396] at p565
                rw [c568] at p565
                rw [c554] at p565
                have hO576 : FrO 59 a1 T I0 I558 := hO397.st g561 (by decide +kernel)
                have ov577 := w566.over (by rw [c551]; exact om_394b70a2 p412)
                obtain ⟨v578, c579⟩ : ∃ v, I558 a0 9 = v := ⟨_, rfl⟩
                have b580 := iv15_9 hS567.1 ta0 c579
                obtain ⟨v581, c582⟩ : ∃ v, I558 a0 13 = v := ⟨_, rfl⟩
                obtain ⟨v583, c584⟩ : ∃ v, I558 a0 14 = v := ⟨_, rfl⟩
                (try rw [c579] at ov577)
                (try rw [c582] at ov577)
                (try rw [c584] at ov577)
                (try rw [c551] at ov577)
                (try rw [c554] at ov577)
                (try rw [c556] at ov577)
                refine tr_aload_n dX12_readRising_54 hl55 ?_
                refine q_getI dX12_readRising_55 fl12_99 (kR15 hS567.1 ta0) c579 ?_
                refine q_iconst dX12_readRising_58 (by decide) ?_
                intro v585 h586
                refine q_icmp_ne 64 dX12_readRising_59 (by decide) (fun h587 => ?_) (fun h587 => ?_)
                · skip
                  exfalso; exact om_1fa3e129 ov577.1 h586 h587
                · skip
                  refine q_iconst dX12_readRising_62 (by decide) ?_
                  intro v588 h589
                  obtain ⟨v590, c591⟩ : ∃ v, I558 a0 10 = v := ⟨_, rfl⟩
                  have b592 := iv15_10 hS567.1 ta0 c591
                  obtain ⟨v593, c594⟩ : ∃ v, I558 a0 11 = v := ⟨_, rfl⟩
                  obtain ⟨y595, c596⟩ : ∃ v, L560 a0 15 = v := ⟨_, rfl⟩
                  obtain ⟨v597, c598⟩ : ∃ v, I558 a0 12 = v := ⟨_, rfl⟩
                  exact tr_iret hZ dX12_readRising_63 rfl (by decide) (by decide) ⟨v588, rfl, rfl, rfl, rfl, rfl, hS567, (by exact om_7d21acc5 h589), (fun j hj => (Eq.trans ((g561.cell ta1 (wm_no (by decide +kernel))).trans (g388.cell ta1 (wm_no (by decide +kernel)))) (rw102 j hj))), hO576, (Or.inr (⟨(by rw [← g83]; simp only [riF, ↓reduceIte]; exact om_fd03680b p411), (by (try rw [c579]); first | done | with_reducible assumption | exact om_394b70a2 ov577.1), (by (try rw [c582]); rw [← g83]; simp only [riF, ↓reduceIte]; exact om_807ede3a p411 p413 ov577.2.1), (by (try rw [c584]); rw [← g84]; simp only [riP, ↓reduceIte]; exact om_c9eafa42 p411 p414 ov577.2.2), trivial⟩)), trivial⟩
              · skip
                exfalso; exact om_790212d5 hx3.2 hx3.1 g90 g91 g86 g92 h557
            · skip
              obtain ⟨v599, c600⟩ : ∃ v, I385 a0 9 = v := ⟨_, rfl⟩
              have b601 := iv15_9 hS392.1 ta0 c600
              rw [c600] at p418
              obtain ⟨v602, c603⟩ : ∃ v, I385 a0 13 = v := ⟨_, rfl⟩
              rw [c603] at p419
              obtain ⟨v604, c605⟩ : ∃ v, I385 a0 14 = v := ⟨_, rfl⟩
              rw [c605] at p420
              refine tr_istore dX12_readRising_37 (by decide) (by decide) ?_
              refine tr_iload dX12_readRising_39 hl59 ?_
              refine tr_iload_n dX12_readRising_41 hl58 ?_
              refine q_icmp_ne 50 dX12_readRising_42 (by decide) (fun h606 => ?_) (fun h606 => ?_)
              · skip
                refine tr_aload_n dX12_readRising_50 hl55 ?_
                refine q_callVv hE (M' := mX12_goesOn) (as := []) dX12_readRising_51 lk12_142 inX12_goesOn seX12_goesOn myX12_goesOn (by decide) ⟨by decide, by decide⟩ rfl (kR15 hS392.1 ta0) (Nat.le_of_ble_eq_true rfl) rfl rfl (by decide) (by decide) (k_X12_goesOn hS392.1 ta0) ?_
                rintro cn' K' N' I607 R608 L609 ⟨rfl, rfl, rfl, rfl, g610, p612, p613, p614, w615, -⟩
                have hS616 := hS392.tr g610 (by decide +kernel) (by decide +kernel)
                have c617 : I607 a0 13 = v602 := (g610.cell ta0 (by decide +kernel)).trans c603
                have c618 : I607 a0 14 = v604 := (g610.cell ta0 (by decide +kernel)).trans c605
                obtain ⟨v619, c620⟩ : ∃ v, I607 a0 9 = v := ⟨_, rfl⟩
                have b621 := iv15_9 hS616.1 ta0 c620
                rw [c600] at p612
                rw [c620] at p612
                rw [c600] at p613
                rw [c620] at p613
                obtain ⟨v622, c623⟩ : ∃ v, I607 a0 8 = v := ⟨_, rfl⟩
                have b624 := iv15_8 hS616.1 ta0 c623
                rw [c623] at p614
                rw [c396] at p614
                rw [c617] at p614
                rw [c603] at p614
                have hO625 : FrO 59 a1 T I0 I607 := hO397.st g610 (by decide +kernel)
                have ov626 := w615.over (by rw [c600]; exact om_394b70a2 p418)
                obtain ⟨v627, c628⟩ : ∃ v, I607 a0 9 = v := ⟨_, rfl⟩
                have b629 := iv15_9 hS616.1 ta0 c628
                obtain ⟨v630, c631⟩ : ∃ v, I607 a0 13 = v := ⟨_, rfl⟩
                obtain ⟨v632, c633⟩ : ∃ v, I607 a0 14 = v := ⟨_, rfl⟩
                (try rw [c628] at ov626)
                (try rw [c631] at ov626)
                (try rw [c633] at ov626)
                (try rw [c600] at ov626)
                (try rw [c603] at ov626)
                (try rw [c605] at ov626)
                refine tr_aload_n dX12_readRising_54 hl55 ?_
                refine q_getI dX12_readRising_55 fl12_99 (kR15 hS616.1 ta0) c628 ?_
                refine q_iconst dX12_readRising_58 (by decide) ?_
                intro v634 h635
                refine q_icmp_ne 64 dX12_readRising_59 (by decide) (fun h636 => ?_) (fun h636 => ?_)
                · skip
                  exfalso; exact om_1fa3e129 ov626.1 h635 h636
                · skip
                  refine q_iconst dX12_readRising_62 (by decide) ?_
                  intro v637 h638
                  obtain ⟨v639, c640⟩ : ∃ v, I607 a0 10 = v := ⟨_, rfl⟩
                  have b641 := iv15_10 hS616.1 ta0 c640
                  obtain ⟨v642, c643⟩ : ∃ v, I607 a0 11 = v := ⟨_, rfl⟩
                  obtain ⟨y644, c645⟩ : ∃ v, L609 a0 15 = v := ⟨_, rfl⟩
                  obtain ⟨v646, c647⟩ : ∃ v, I607 a0 12 = v := ⟨_, rfl⟩
                  exact tr_iret hZ dX12_readRising_63 rfl (by decide) (by decide) ⟨v637, rfl, rfl, rfl, rfl, rfl, hS616, (by exact om_7d21acc5 h638), (fun j hj => (Eq.trans ((g610.cell ta1 (wm_no (by decide +kernel))).trans (g388.cell ta1 (wm_no (by decide +kernel)))) (rw102 j hj))), hO625, (Or.inr (⟨(by rw [← g83]; simp only [riF, ↓reduceIte]; exact om_33d2b174 hx3.2 hx3.1 p42 g90 g91 g86 g92 h382 h384 p417 p418 h606 p613 p612 b621.2 b621.1), (by (try rw [c628]); first | done | with_reducible assumption | exact om_394b70a2 ov626.1), (by (try rw [c631]); rw [← g83]; simp only [riF, ↓reduceIte]; exact om_84579115 hx3.2 hx3.1 p42 g90 g91 g86 g92 h382 h384 p416 p417 p418 p419 h606 p613 p612 b621.2 b621.1 ov626.2.1), (by (try rw [c633]); rw [← g84]; simp only [riP, ↓reduceIte]; exact om_9489e191 hx3.2 hx3.1 p42 g90 g91 g96 b106.2 b106.1 g86 g92 h382 h384 p417 p418 p420 h606 p613 p612 b621.2 b621.1 ov626.2.2), trivial⟩)), trivial⟩
              · skip
                exfalso; exact om_790212d5 hx3.2 hx3.1 g90 g91 g86 g92 h606
  exact lp103 _ _ v46 v48 v50 I0 L0 (gs) (8) v44 v13 v18 v22 y25 v28 v31 rfl rfl rfl rfl rfl rfl rfl hS0 hL0 hO0 c45 c14 c19 c23 c26 c29 c32 (by first | rfl | (congr 1; omega) | (congr 2 <;> omega)) (by first | rfl | (congr 1; omega) | (congr 2 <;> omega)) (by first | rfl | (congr 1; omega) | (congr 2 <;> omega)) (by exact om_04beea54 h47) (by exact om_ee8a1e2d h51) (by exact om_d99fa9e4 h49) (by exact om_4c96df26 h49) (by exact om_d99fa9e4 h47) (by exact om_91231c9d h47) (by exact om_45513e8b h47) (by exact om_4ee7209a) (by exact om_acd7a85a p16) (by exact om_fc4b6669 p17) (by exact om_acd7a85a p21) (by exact om_acd7a85a p24) (by assumption) (by assumption) (by assumption) ⟨by rw [show v46.toInt.toNat = 0 by exact om_8b46d78f h47]; rfl, fun k hk => by exact om_78089df4 h47 hk⟩ (fun j hj => rfl) (Nat.lt_succ_self _)
set_option maxHeartbeats 4000000 in
theorem fo_X12_readRising {l : Launch} {T : Nat → Nat} {cn : Nat} {K N : Nat → Nat} {I0 : cz_I} {R0 : cz_R} {L0 : cz_L} {d : Int} (hW0 : Wf T cn K N I0 R0 d)  {a0 : Nat} (ta0 : T a0 = 15) {a1 : Nat} (ta1 : T a1 = 59) {x2 : Int32} (hx2 : 0 ≤ x2.toInt ∧ x2.toInt ≤ 0) {x3 : Int32} (hx3 : 8 ≤ x3.toInt ∧ x3.toInt ≤ 8) (pre0 : (I0 a0 9).toInt = 5) : ConE l mX12_readRising [.ref a0, .ref a1, .int x2, .int x3] cn K N I0 R0 L0 (ca_i (fun v cn' K' N' I' R' L' => cn = cn' ∧ K = K' ∧ N = N' ∧ I0 = I' ∧ R0 = R' ∧ L0 = L' ∧ (v.toInt = 0) ∧ True)) := by
  refine ConE.of (by decide +kernel) rfl (Nat.le_of_ble_eq_true rfl) rfl (fun X hX hZ hE => ?_)
  subst hX
  obtain ⟨v11, c12⟩ : ∃ v, I0 a0 9 = v := ⟨_, rfl⟩
  have b13 := iv15_9 hW0 ta0 c12
  have p14 := pre0
  rw [c12] at p14
  obtain ⟨v15, c16⟩ : ∃ v, I0 a0 13 = v := ⟨_, rfl⟩
  refine q_iconst dX12_readRising_0 (by decide) ?_
  intro v17 h18
  refine tr_istore dX12_readRising_1 (by decide) (by decide) ?_
  refine q_iconst dX12_readRising_3 (by decide) ?_
  intro v19 h20
  refine tr_istore dX12_readRising_4 (by decide) (by decide) ?_
  refine q_iconst dX12_readRising_6 (by decide) ?_
  intro v21 h22
  refine tr_istore dX12_readRising_7 (by decide) (by decide) ?_
  refine tr_iload dX12_readRising_9 rfl ?_
  refine q_if_eq 92 dX12_readRising_11 (by decide) (fun h23 => ?_) (fun h23 => ?_)
  · skip
    exfalso; exact om_3624102b h22 h23
  · skip
    refine tr_aload_n dX12_readRising_14 rfl ?_
    refine q_getI dX12_readRising_15 fl12_99 (kR15 hW0 ta0) c12 ?_
    refine q_iconst dX12_readRising_18 (by decide) ?_
    intro v24 h25
    refine q_icmp_eq 92 dX12_readRising_19 (by decide) (fun h26 => ?_) (fun h26 => ?_)
    · skip
      refine tr_iload dX12_readRising_92 rfl ?_
      exact tr_iret hZ dX12_readRising_94 rfl (by decide) (by decide) ⟨v17, rfl, rfl, rfl, rfl, rfl, rfl, rfl, (by first | done | with_reducible assumption | omega), trivial⟩
    · skip
      exfalso; exact om_1fa3e129 p14 h25 h26
def wik_X12_readAlmanac : List Nat := [904, 905, 968, 969, 970, 971, 972, 973, 974, 3839]
def wrk_X12_readAlmanac : List Nat := []
def wlk_X12_readAlmanac : List Nat := [975]
set_option maxHeartbeats 4000000 in
theorem fk_X12_readAlmanac {l : Launch} {T : Nat → Nat} {cn : Nat} {K N : Nat → Nat} {I0 : cz_I} {R0 : cz_R} {L0 : cz_L} (hW0 : Wf T cn K N I0 R0 0) (gB : cz_B) (gs : Int) (gQ : Nat → Int) {a0 : Nat} (ta0 : T a0 = 15) (hT : ∀ t, R0 a0 5 = some t → Tx I0 t gB) (hN : ∀ b, R0 a0 4 = some b → NmM I0 R0 L0 b gQ) (pre0 : (I0 a0 9).toInt = (tkM gB gs)) (pre1 : (I0 a0 9).toInt ≤ 4) (pre2 : (I0 a0 10).toInt = (tkS gB gs)) (pre3 : (I0 a0 11).toInt = (tkG gB gs)) (pre4 : (AtW ((tkK gB gs)) ((L0 a0 15).toInt) ((tkW gB gs)))) (pre5 : (AtV ((tkK gB gs)) ((I0 a0 12).toInt) ((tkV gB gs)))) (pre6 : (AtN ((tkK gB gs)) ((I0 a0 8).toInt) ((tkN gB gs)))) (pre7 : (I0 a0 7).toInt = (gB.2)) (pre8 : ∀ b1, R0 a0 4 = some b1 → (I0 b1 0).toInt = (gQ 0)) (pre9 : ∀ b1, R0 a0 4 = some b1 → (I0 b1 1).toInt = (gQ 1)) (pre10 : ∀ b1, R0 a0 4 = some b1 → (I0 b1 2).toInt = (gQ 2)) (pre11 : ∀ b1, R0 a0 4 = some b1 → (I0 b1 3).toInt = (gQ 3)) (pre12 : ∀ b1, R0 a0 4 = some b1 → (I0 b1 4).toInt = (gQ 4)) (pre13 : ∀ b1, R0 a0 4 = some b1 → (I0 b1 5).toInt = (gQ 5)) (pre14 : ∀ b1, R0 a0 4 = some b1 → (I0 b1 6).toInt = (gQ 6)) (pre15 : ∀ b1, R0 a0 4 = some b1 → (I0 b1 9).toInt = (gQ 8)) (pre16 : (Q7M ((gQ 0)) ((gQ 7)))) (pre17 : (tkK gB gs) = 1) (pre18 : (srt gB gs) = 6) (nn4 : ∃ b, R0 a0 4 = some b) : ConE l mX12_readAlmanac [.ref a0] cn K N I0 R0 L0 (ca_v (fun cn' K' N' I' R' L' => cn = cn' ∧ K = K' ∧ N = N' ∧ R0 = R' ∧ St T cn K N 0 wik_X12_readAlmanac wrk_X12_readAlmanac I0 R0 I' R0 ∧ (∀ b, R0 a0 4 = some b → FrM R0 b T I0 I') ∧ (∀ dr, R0 a0 4 = some dr → FrO 14 dr T I0 I') ∧ ((((lnF gB gQ gs) = 0) ∧ (∀ b1, R0 a0 4 = some b1 → (I' b1 0).toInt = (lnQ gB gQ gs 0)) ∧ (∀ b1, R0 a0 4 = some b1 → (I' b1 1).toInt = (lnQ gB gQ gs 1)) ∧ (∀ b1, R0 a0 4 = some b1 → (I' b1 2).toInt = (lnQ gB gQ gs 2)) ∧ (∀ b1, R0 a0 4 = some b1 → (I' b1 3).toInt = (lnQ gB gQ gs 3)) ∧ (∀ b1, R0 a0 4 = some b1 → (I' b1 4).toInt = (lnQ gB gQ gs 4)) ∧ (∀ b1, R0 a0 4 = some b1 → (I' b1 5).toInt = (lnQ gB gQ gs 5)) ∧ (∀ b1, R0 a0 4 = some b1 → (I' b1 6).toInt = (lnQ gB gQ gs 6)) ∧ (∀ b1, R0 a0 4 = some b1 → (I' b1 9).toInt = (lnQ gB gQ gs 8)) ∧ ((I' a0 13).toInt = (I0 a0 13).toInt) ∧ ((I' a0 9).toInt = (tkM gB (lnS gB gQ gs))) ∧ ((I' a0 9).toInt ≤ 4) ∧ ((I' a0 10).toInt = (tkS gB (lnS gB gQ gs))) ∧ ((I' a0 11).toInt = (tkG gB (lnS gB gQ gs))) ∧ ((AtW ((tkK gB (lnS gB gQ gs))) ((L' a0 15).toInt) ((tkW gB (lnS gB gQ gs))))) ∧ ((AtV ((tkK gB (lnS gB gQ gs))) ((I' a0 12).toInt) ((tkV gB (lnS gB gQ gs))))) ∧ ((AtN ((tkK gB (lnS gB gQ gs))) ((I' a0 8).toInt) ((tkN gB (lnS gB gQ gs))))) ∧ LgS T wlk_X12_readAlmanac L0 L' ∧ (∀ b, R0 a0 4 = some b → NmM I' R0 L' b (lnQ gB gQ gs)) ∧ (∀ E b, R0 a0 4 = some b → AlM I0 R0 b gQ E → AlM I' R0 b (lnQ gB gQ gs) (lnE gB gQ gs E)) ∧ True) ∨ (((lnF gB gQ gs) ≠ 0) ∧ ((I' a0 9).toInt = 5) ∧ ((I' a0 13).toInt = (lnF gB gQ gs)) ∧ ((I' a0 14).toInt = (lnP gB gQ gs)) ∧ True)) ∧ True)) := by
  refine ConE.of (by decide +kernel) rfl (Nat.le_of_ble_eq_true rfl) rfl (fun X hX hZ hE => ?_)
  subst hX
  have hS0 : St T cn K N 0 wik_X12_readAlmanac wrk_X12_readAlmanac I0 R0 I0 R0 := St.rf0 hW0
  have hL0 : LgS T wlk_X12_readAlmanac L0 L0 := LgS.rf0
  obtain ⟨a1, d2⟩ := nn4
  have ta1 : T a1 = 14 := hW0.rsN ta0 rfl d2
  obtain ⟨v3, c4⟩ : ∃ v, I0 a0 9 = v := ⟨_, rfl⟩
  have b5 := iv15_9 hS0.1 ta0 c4
  have p6 := pre0
  rw [c4] at p6
  have p7 := pre1
  rw [c4] at p7
  obtain ⟨v8, c9⟩ : ∃ v, I0 a0 10 = v := ⟨_, rfl⟩
  have b10 := iv15_10 hS0.1 ta0 c9
  have p11 := pre2
  rw [c9] at p11
  obtain ⟨v12, c13⟩ : ∃ v, I0 a0 11 = v := ⟨_, rfl⟩
  have p14 := pre3
  rw [c13] at p14
  obtain ⟨y15, c16⟩ : ∃ v, L0 a0 15 = v := ⟨_, rfl⟩
  have p17 := pre4
  rw [c16] at p17
  obtain ⟨v18, c19⟩ : ∃ v, I0 a0 12 = v := ⟨_, rfl⟩
  have p20 := pre5
  rw [c19] at p20
  obtain ⟨v21, c22⟩ : ∃ v, I0 a0 8 = v := ⟨_, rfl⟩
  have b23 := iv15_8 hS0.1 ta0 c22
  have p24 := pre6
  rw [c22] at p24
  obtain ⟨v25, c26⟩ : ∃ v, I0 a0 7 = v := ⟨_, rfl⟩
  have b27 := iv15_7 hW0 ta0 c26
  have p28 := pre7
  rw [c26] at p28
  obtain ⟨v29, c30⟩ : ∃ v, I0 a1 0 = v := ⟨_, rfl⟩
  have b31 := iv14_0 hW0 ta1 c30
  have p32 := pre8 _ d2
  rw [c30] at p32
  obtain ⟨v33, c34⟩ : ∃ v, I0 a1 1 = v := ⟨_, rfl⟩
  have b35 := iv14_1 hW0 ta1 c34
  have p36 := pre9 _ d2
  rw [c34] at p36
  obtain ⟨v37, c38⟩ : ∃ v, I0 a1 2 = v := ⟨_, rfl⟩
  have b39 := iv14_2 hW0 ta1 c38
  have p40 := pre10 _ d2
  rw [c38] at p40
  obtain ⟨v41, c42⟩ : ∃ v, I0 a1 3 = v := ⟨_, rfl⟩
  have b43 := iv14_3 hW0 ta1 c42
  have p44 := pre11 _ d2
  rw [c42] at p44
  obtain ⟨v45, c46⟩ : ∃ v, I0 a1 4 = v := ⟨_, rfl⟩
  have b47 := iv14_4 hW0 ta1 c46
  have p48 := pre12 _ d2
  rw [c46] at p48
  obtain ⟨v49, c50⟩ : ∃ v, I0 a1 5 = v := ⟨_, rfl⟩
  have b51 := iv14_5 hW0 ta1 c50
  have p52 := pre13 _ d2
  rw [c50] at p52
  obtain ⟨v53, c54⟩ : ∃ v, I0 a1 6 = v := ⟨_, rfl⟩
  have b55 := iv14_6 hW0 ta1 c54
  have p56 := pre14 _ d2
  rw [c54] at p56
  obtain ⟨v57, c58⟩ : ∃ v, I0 a1 9 = v := ⟨_, rfl⟩
  have b59 := iv14_9 hS0.1 ta1 c58
  have p60 := pre15 _ d2
  rw [c58] at p60
  have p61 := pre16
  have p62 := pre17
  have p63 := pre18
  obtain ⟨v64, c65⟩ : ∃ v, I0 a0 13 = v := ⟨_, rfl⟩
  have hM0 := hN _ d2
  have hO0 : FrO 14 a1 T I0 I0 := FrO.rf
  obtain ⟨a66, d67, ta66⟩ := rf14_16 hW0 ta1
  have hF := lnF_ch gB gQ gs
  have hP := lnP_ch gB gQ gs
  replace hF := hF.neg (by exact om_6b5925eb pre18)
  replace hP := hP.neg (by exact om_6b5925eb pre18)
  refine tr_aload_n dX12_readAlmanac_0 rfl ?_
  refine tr_getR dX12_readAlmanac_1 fl12_188 (kR15 hS0.1 ta0) d2 ?_
  refine q_getZ dX12_readAlmanac_4 fl12_302 (kR14 hS0.1 ta1) c58 ?_
  refine q_if_eq 15 dX12_readAlmanac_7 (by decide) (fun h68 => ?_) (fun h68 => ?_)
  · skip
    replace hF := hF.neg (by exact om_e3ee9c4d pre18 p60 h68)
    replace hP := hP.neg (by exact om_e3ee9c4d pre18 p60 h68)
    refine tr_aload_n dX12_readAlmanac_15 rfl ?_
    refine q_iconst dX12_readAlmanac_16 (by decide) ?_
    intro v69 h70
    refine q_iconst dX12_readAlmanac_17 (by decide) ?_
    intro v71 h72
    refine q_callVv hE (M' := mX12_begins) (as := [_, _]) dX12_readAlmanac_18 lk12_268 inX12_begins seX12_begins myX12_begins (by decide) ⟨by decide, by decide⟩ rfl (kR15 hS0.1 ta0) (Nat.le_of_ble_eq_true rfl) rfl rfl (by decide) (by decide) (fk_X12_begins hS0.1 (gB) (gs) (gQ) ta0 (TxA.kp hT hS0 ta0 rfl rfl rfl (by decide +kernel) (by decide +kernel)) (by (try rw [c4]); first | done | with_reducible assumption | omega) (by (try rw [c4]); first | done | with_reducible assumption | omega) (by (try rw [c9]); first | done | with_reducible assumption | omega) (by (try rw [c13]); first | done | with_reducible assumption | omega) (by (try rw [c16]); first | done | assumption) (by (try rw [c19]); first | done | assumption) (by (try rw [c22]); first | done | assumption) (by (try rw [c26]); first | done | with_reducible assumption | omega) (fun q0 z0 => by obtain rfl := Option.some.inj ((d2).symm.trans z0); (try rw [c30]); first | done | with_reducible assumption | omega) (by first | done | with_reducible assumption | omega) ⟨_, d2⟩) ?_
    rintro cn' K' N' I73 R74 L75 ⟨rfl, rfl, rfl, rfl, g76, dj79, -⟩
    have hM80 : NmM I73 R0 L0 a1 gQ := NmM.kpS hM0 g76 hS0.1 ta1 (by decide +kernel) (by decide +kernel)
    have hS81 := hS0.tr g76 (by decide +kernel) (by decide +kernel)
    have c82 : I73 a1 9 = v57 := (g76.cell ta1 (by decide +kernel)).trans c58
    have hO83 : FrO 14 a1 T I0 I73 := hO0.st g76 (by decide +kernel)
    rcases dj79 with ⟨p84, p85, p86, p87, p88, p89, p90, p91, p92, p93, gl94, -⟩ | ⟨p95, p96, p97, p98, -⟩ | ⟨p99, p100, p101, p102, p103, -⟩
    · skip
      have hL104 := hL0.tr gl94 (by decide +kernel)
      have hM105 : NmM I73 R0 L75 a1 gQ := NmM.kpL hM80 gl94 hS81.1 ta1 (by decide +kernel)
      obtain ⟨v106, c107⟩ : ∃ v, I73 a0 13 = v := ⟨_, rfl⟩
      rw [c107] at p86
      rw [c65] at p86
      obtain ⟨v108, c109⟩ : ∃ v, I73 a0 9 = v := ⟨_, rfl⟩
      have b110 := iv15_9 hS81.1 ta0 c109
      rw [c109] at p87
      rw [c109] at p88
      obtain ⟨v111, c112⟩ : ∃ v, I73 a0 10 = v := ⟨_, rfl⟩
      have b113 := iv15_10 hS81.1 ta0 c112
      rw [c112] at p89
      obtain ⟨v114, c115⟩ : ∃ v, I73 a0 11 = v := ⟨_, rfl⟩
      rw [c115] at p90
      obtain ⟨y116, c117⟩ : ∃ v, L75 a0 15 = v := ⟨_, rfl⟩
      rw [c117] at p91
      obtain ⟨v118, c119⟩ : ∃ v, I73 a0 12 = v := ⟨_, rfl⟩
      rw [c119] at p92
      obtain ⟨v120, c121⟩ : ∃ v, I73 a0 8 = v := ⟨_, rfl⟩
      have b122 := iv15_8 hS81.1 ta0 c121
      rw [c121] at p93
      have p123 := p61
      unfold Q7M at p123
      replace hF := hF.neg (by exact om_29dee3b2 pre18)
      replace hP := hP.neg (by exact om_29dee3b2 pre18)
      replace hF := hF.neg (by exact om_841b6ac6 pre18 p85 p123)
      replace hP := hP.neg (by exact om_841b6ac6 pre18 p85 p123)
      clear p123
      obtain ⟨w124, w125, w126, w127, w128, w129, w130, w131, w132, w133, w134, w135⟩ := lnl_6 (B := gB) (Q := gQ) (s := gs) (by exact om_820c5a14 p63)
      replace hF := hF.to w124 (show ChE (riF gB gQ 8 0 (tkN gB gs)) (riF gB gQ 8 0 (tkN gB gs)) from rfl)
      replace hP := hP.to w125 (show ChE (riP gB gQ 8 0 (tkN gB gs)) (riP gB gQ 8 0 (tkN gB gs)) from rfl)
      refine tr_aload_n dX12_readAlmanac_21 rfl ?_
      refine tr_aload_n dX12_readAlmanac_22 rfl ?_
      refine tr_getR dX12_readAlmanac_23 fl12_188 (kR15 hS81.1 ta0) d2 ?_
      refine tr_getR dX12_readAlmanac_26 fl12_306 (kR14 hS81.1 ta1) d67 ?_
      refine q_iconst dX12_readAlmanac_29 (by decide) ?_
      intro v136 h137
      refine q_bipush dX12_readAlmanac_30 (by decide +kernel) ?_
      intro v138 h139
      refine q_callVi hE (M' := mX12_readRising) (as := [_, _, _]) dX12_readAlmanac_32 lk12_308 inX12_readRising seX12_readRising myX12_readRising (by decide) ⟨by decide, by decide⟩ rfl (kR15 hS81.1 ta0) (Nat.le_of_ble_eq_true rfl) rfl rfl (by decide) (by decide) (fk_X12_readRising hS81.1 (gB) ((tkN gB gs)) (gQ) ta0 ta66 (by exact om_615c7989 h137) (by exact om_abb56aaf h139) (TxA.kp hT hS81 ta0 rfl rfl rfl (by decide +kernel) (by decide +kernel)) (by (try rw [c109]); first | done | with_reducible assumption | omega) (by (try rw [c109]); first | done | with_reducible assumption | omega) (by (try rw [c112]); first | done | with_reducible assumption | omega) (by (try rw [c115]); first | done | with_reducible assumption | omega) (by (try rw [c117]); first | done | assumption) (by (try rw [c119]); first | done | assumption) (by (try rw [c121]); first | done | assumption) (by (try rw [((hS81.cell ta0 (by decide +kernel)).trans c26)]); first | done | with_reducible assumption | omega) (fun q0 z0 => by obtain rfl := Option.some.inj ((d2).symm.trans z0); (try rw [((hS81.cell ta1 (by decide +kernel)).trans c30)]); first | done | with_reducible assumption | omega) (by first | done | with_reducible assumption | exact om_6c62a19e b31.2 b31.1 p32 p85 w127) ⟨_, d2⟩) ?_
      rintro v145 cn' K' N' I140 R141 L142 ⟨rfl, rfl, rfl, rfl, g143, h146, rp147, rp148, dj149, -⟩
      have hM150 : NmM I140 R0 L75 a1 gQ := NmM.kpS hM105 g143 hS81.1 ta1 (by decide +kernel) (by decide +kernel)
      have hS151 := hS81.tr g143 (by decide +kernel) (by decide +kernel)
      have c152 : I140 a1 9 = v57 := (g143.cell ta1 (by decide +kernel)).trans c82
      have hO153 : FrO 14 a1 T I0 I140 := hO83.st g143 (by decide +kernel)
      rcases dj149 with ⟨p154, p155, p156, p157, p158, p159, p160, p161, p162, p163, gl164, rp165, -⟩ | ⟨p166, p167, p168, p169, -⟩
      · skip
        have hL170 := hL104.tr gl164 (by decide +kernel)
        have hM171 : NmM I140 R0 L142 a1 gQ := NmM.kpL hM150 gl164 hS151.1 ta1 (by decide +kernel)
        obtain ⟨v172, c173⟩ : ∃ v, I140 a0 13 = v := ⟨_, rfl⟩
        rw [c173] at p155
        rw [c107] at p155
        obtain ⟨v174, c175⟩ : ∃ v, I140 a0 9 = v := ⟨_, rfl⟩
        have b176 := iv15_9 hS151.1 ta0 c175
        rw [c175] at p156
        rw [c175] at p157
        obtain ⟨v177, c178⟩ : ∃ v, I140 a0 10 = v := ⟨_, rfl⟩
        have b179 := iv15_10 hS151.1 ta0 c178
        rw [c178] at p158
        obtain ⟨v180, c181⟩ : ∃ v, I140 a0 11 = v := ⟨_, rfl⟩
        rw [c181] at p159
        obtain ⟨y182, c183⟩ : ∃ v, L142 a0 15 = v := ⟨_, rfl⟩
        rw [c183] at p160
        obtain ⟨v184, c185⟩ : ∃ v, I140 a0 12 = v := ⟨_, rfl⟩
        rw [c185] at p161
        obtain ⟨v186, c187⟩ : ∃ v, I140 a0 8 = v := ⟨_, rfl⟩
        have b188 := iv15_8 hS151.1 ta0 c187
        rw [c187] at p162
        refine tr_istore_n dX12_readAlmanac_35 (by decide) (by decide) ?_
        refine tr_aload_n dX12_readAlmanac_36 rfl ?_
        refine q_getI dX12_readAlmanac_37 fl12_99 (kR15 hS151.1 ta0) c175 ?_
        refine q_iconst dX12_readAlmanac_40 (by decide) ?_
        intro v189 h190
        refine q_icmp_ne 45 dX12_readAlmanac_41 (by decide) (fun h191 => ?_) (fun h191 => ?_)
        · skip
          refine tr_aload_n dX12_readAlmanac_45 rfl ?_
          refine tr_getR dX12_readAlmanac_46 fl12_188 (kR15 hS151.1 ta0) d2 ?_
          refine tr_iload_n dX12_readAlmanac_49 rfl ?_
          refine q_putI dX12_readAlmanac_50 fl12_312 (kR14 hS151.1 ta1) (Or.inl rfl) hS151 ta1 (by show (0 : Int) ≤ v145.toInt ∧ v145.toInt ≤ (8 : Int); exact om_575e5997 h146) rfl (by decide +kernel) ?_
          intro I192 hS193 e194 f195
          have c196 : I192 a1 9 = v57 := (f195 _ _ (fun q => absurd q.2 (by decide))).trans c152
          have c197 : I192 a0 13 = v172 := (f195 _ _ (fun q => absurd q.2 (by decide))).trans c173
          have c198 : I192 a0 9 = v174 := (f195 _ _ (fun q => absurd q.2 (by decide))).trans c175
          have c199 : I192 a0 10 = v177 := (f195 _ _ (fun q => absurd q.2 (by decide))).trans c178
          have c200 : I192 a0 11 = v180 := (f195 _ _ (fun q => absurd q.2 (by decide))).trans c181
          have c201 : I192 a0 12 = v184 := (f195 _ _ (fun q => absurd q.2 (by decide))).trans c185
          have c202 : I192 a0 8 = v186 := (f195 _ _ (fun q => by have z := ta0; rw [q.1, ta1] at z; exact absurd z (by decide))).trans c187
          have hO203 : FrO 14 a1 T I0 I192 := hO153.put f195 ta1 (Or.inr rfl)
          have hM204 : NmM I192 R0 L142 a1 gQ := NmM.kp1 hM171 f195 ta1 rfl rfl hS151.1 ta1
          refine tr_aload_n dX12_readAlmanac_53 rfl ?_
          refine tr_getR dX12_readAlmanac_54 fl12_188 (kR15 hS193.1 ta0) d2 ?_
          refine q_iconst dX12_readAlmanac_57 (by decide) ?_
          intro v205 h206
          refine q_putZ dX12_readAlmanac_58 fl12_302 (kR14 hS193.1 ta1) (Or.inl rfl) hS193 ta1 (by exact om_d753bc65 h206) (by show (0 : Int) ≤ v205.toInt ∧ v205.toInt ≤ (1 : Int); exact om_d753bc65 h206) rfl (by decide +kernel) ?_
          intro I207 hS208 e209 f210
          have c211 : I207 a0 13 = v172 := (f210 _ _ (fun q => absurd q.2 (by decide))).trans c197
          have c212 : I207 a0 9 = v174 := (f210 _ _ (fun q => by have z := ta0; rw [q.1, ta1] at z; exact absurd z (by decide))).trans c198
          have c213 : I207 a0 10 = v177 := (f210 _ _ (fun q => absurd q.2 (by decide))).trans c199
          have c214 : I207 a0 11 = v180 := (f210 _ _ (fun q => absurd q.2 (by decide))).trans c200
          have c215 : I207 a0 12 = v184 := (f210 _ _ (fun q => absurd q.2 (by decide))).trans c201
          have c216 : I207 a0 8 = v186 := (f210 _ _ (fun q => absurd q.2 (by decide))).trans c202
          have c217 : I207 a1 8 = v145 := (f210 _ _ (fun q => absurd q.2 (by decide))).trans e194
          have hO218 : FrO 14 a1 T I0 I207 := hO203.put f210 ta1 (Or.inr rfl)
          have hM219 : NmM I207 R0 L142 a1 gQ := NmM.kp1 hM204 f210 ta1 rfl rfl hS193.1 ta1
          have eF := hF.eq
          have eP := hP.eq
          obtain ⟨v220, c221⟩ : ∃ v, I207 a0 14 = v := ⟨_, rfl⟩
          exact tr_vret hZ dX12_readAlmanac_61 rfl (by decide) (by decide) ⟨rfl, rfl, rfl, rfl, rfl, hS208, (fun b hb => (Option.some.inj (d2.symm.trans hb)) ▸ (((((FrM.rf (R := R0) (b := a1) (T := T)).st g76 (by decide +kernel)).fro rp148 g143 (by decide) (by decide) d67 (by decide +kernel)).put f195 ta1 (by decide)).put f210 ta1 (by decide))), (fun dr hd => (Option.some.inj (d2.symm.trans hd)) ▸ hO218), (Or.inl ⟨(by (try rw [w126]); first | done | with_reducible assumption | exact om_d12bbb76 p154 eF), (fun q0 z0 => by obtain rfl := Option.some.inj ((d2).symm.trans z0); (try rw [w126]); (try rw [((hS208.cell ta1 (by decide +kernel)).trans c30)]); first | done | with_reducible assumption | exact om_2757374c p32 w127), (fun q0 z0 => by obtain rfl := Option.some.inj ((d2).symm.trans z0); (try rw [w126]); (try rw [((hS208.cell ta1 (by decide +kernel)).trans c34)]); first | done | with_reducible assumption | exact om_2757374c p36 w128), (fun q0 z0 => by obtain rfl := Option.some.inj ((d2).symm.trans z0); (try rw [w126]); (try rw [((hS208.cell ta1 (by decide +kernel)).trans c38)]); first | done | with_reducible assumption | exact om_2757374c p40 w129), (fun q0 z0 => by obtain rfl := Option.some.inj ((d2).symm.trans z0); (try rw [w126]); (try rw [((hS208.cell ta1 (by decide +kernel)).trans c42)]); first | done | with_reducible assumption | exact om_2757374c p44 w130), (fun q0 z0 => by obtain rfl := Option.some.inj ((d2).symm.trans z0); (try rw [w126]); (try rw [((hS208.cell ta1 (by decide +kernel)).trans c46)]); first | done | with_reducible assumption | exact om_2757374c p48 w131), (fun q0 z0 => by obtain rfl := Option.some.inj ((d2).symm.trans z0); (try rw [w126]); (try rw [((hS208.cell ta1 (by decide +kernel)).trans c50)]); first | done | with_reducible assumption | exact om_2757374c p52 w132), (fun q0 z0 => by obtain rfl := Option.some.inj ((d2).symm.trans z0); (try rw [w126]); (try rw [((hS208.cell ta1 (by decide +kernel)).trans c54)]); first | done | with_reducible assumption | exact om_2757374c p56 w133), (fun q0 z0 => by obtain rfl := Option.some.inj ((d2).symm.trans z0); (try rw [w126]); (try rw [e209]); first | done | with_reducible assumption | exact om_f2e5fab5 w135 h206), (by (try rw [w126]); (try rw [c211]); (try rw [c65]); first | done | with_reducible assumption | exact om_9fa72578 p86 p155), (by (try rw [w126]); (try rw [c212]); first | done | with_reducible assumption | omega), (by (try rw [w126]); (try rw [c212]); first | done | with_reducible assumption | omega), (by (try rw [w126]); (try rw [c213]); first | done | with_reducible assumption | omega), (by (try rw [w126]); (try rw [c214]); first | done | with_reducible assumption | omega), (by (try rw [w126]); (try rw [c183]); first | done | assumption), (by (try rw [w126]); (try rw [c215]); first | done | assumption), (by (try rw [w126]); (try rw [c216]); first | done | assumption), hL170, (fun b hb => (Option.some.inj (d2.symm.trans hb)) ▸ NmM.ln (NmM.bd (k := srt gB gs) hM219 (by exact om_a397193d pre18) (by exact om_7cfa06b5 pre18)) rfl), (fun E b hb hE => by obtain rfl := Option.some.inj (d2.symm.trans hb); exact AlM.am hE hW0 ta1 (by exact om_820c5a14 p63) (by rw [c217]; exact om_acd7a85a p163) (RoF.st (ex := xr 59 59) hS208 (by decide +kernel)) (fun a ha k hk => by obtain rfl := Option.some.inj (d67.symm.trans ha); have z := rp165 k hk; rw [show v136.toInt.toNat + k = k by exact om_6bc710a7 h137] at z; exact (congrArg Int32.toInt ((f210 _ _ (fun q => by have z := ta66; rw [q.1, ta1] at z; exact absurd z (by decide))).trans (f195 _ _ (fun q => by have z := ta66; rw [q.1, ta1] at z; exact absurd z (by decide))))).trans z)), trivial⟩), trivial⟩
        · skip
          exfalso; exact om_99cda0b7 p157 p156 b176.1 h190 h191
      · skip
        obtain ⟨v222, c223⟩ : ∃ v, I140 a0 9 = v := ⟨_, rfl⟩
        have b224 := iv15_9 hS151.1 ta0 c223
        rw [c223] at p167
        obtain ⟨v225, c226⟩ : ∃ v, I140 a0 13 = v := ⟨_, rfl⟩
        rw [c226] at p168
        obtain ⟨v227, c228⟩ : ∃ v, I140 a0 14 = v := ⟨_, rfl⟩
        rw [c228] at p169
        refine tr_istore_n dX12_readAlmanac_35 (by decide) (by decide) ?_
        refine tr_aload_n dX12_readAlmanac_36 rfl ?_
        refine q_getI dX12_readAlmanac_37 fl12_99 (kR15 hS151.1 ta0) c223 ?_
        refine q_iconst dX12_readAlmanac_40 (by decide) ?_
        intro v229 h230
        refine q_icmp_ne 45 dX12_readAlmanac_41 (by decide) (fun h231 => ?_) (fun h231 => ?_)
        · skip
          exfalso; exact om_1fa3e129 p167 h230 h231
        · skip
          have eF := hF.eq
          have eP := hP.eq
          obtain ⟨v232, c233⟩ : ∃ v, I140 a0 10 = v := ⟨_, rfl⟩
          have b234 := iv15_10 hS151.1 ta0 c233
          obtain ⟨v235, c236⟩ : ∃ v, I140 a0 11 = v := ⟨_, rfl⟩
          obtain ⟨y237, c238⟩ : ∃ v, L142 a0 15 = v := ⟨_, rfl⟩
          obtain ⟨v239, c240⟩ : ∃ v, I140 a0 12 = v := ⟨_, rfl⟩
          obtain ⟨v241, c242⟩ : ∃ v, I140 a0 8 = v := ⟨_, rfl⟩
          have b243 := iv15_8 hS151.1 ta0 c242
          exact tr_vret hZ dX12_readAlmanac_44 rfl (by decide) (by decide) ⟨rfl, rfl, rfl, rfl, rfl, hS151, (fun b hb => (Option.some.inj (d2.symm.trans hb)) ▸ (((FrM.rf (R := R0) (b := a1) (T := T)).st g76 (by decide +kernel)).fro rp148 g143 (by decide) (by decide) d67 (by decide +kernel))), (fun dr hd => (Option.some.inj (d2.symm.trans hd)) ▸ hO153), (Or.inr (⟨(by (try rw [w126]); first | done | with_reducible assumption | exact om_53549b26 p166 p168 eF), (by (try rw [w126]); (try rw [c223]); first | done | with_reducible assumption | omega), (by (try rw [w126]); (try rw [c226]); first | done | with_reducible assumption | exact om_2757374c p168 eF), (by (try rw [w126]); (try rw [c228]); first | done | with_reducible assumption | exact om_2757374c p169 eP), trivial⟩)), trivial⟩
    · skip
      obtain ⟨v244, c245⟩ : ∃ v, I73 a0 9 = v := ⟨_, rfl⟩
      have b246 := iv15_9 hS81.1 ta0 c245
      rw [c245] at p96
      obtain ⟨v247, c248⟩ : ∃ v, I73 a0 13 = v := ⟨_, rfl⟩
      rw [c248] at p97
      obtain ⟨v249, c250⟩ : ∃ v, I73 a0 14 = v := ⟨_, rfl⟩
      rw [c250] at p98
      exfalso; exact om_06477918 h70 h72 p95
    · skip
      obtain ⟨v251, c252⟩ : ∃ v, I73 a0 9 = v := ⟨_, rfl⟩
      have b253 := iv15_9 hS81.1 ta0 c252
      rw [c252] at p101
      obtain ⟨v254, c255⟩ : ∃ v, I73 a0 13 = v := ⟨_, rfl⟩
      rw [c255] at p102
      obtain ⟨v256, c257⟩ : ∃ v, I73 a0 14 = v := ⟨_, rfl⟩
      rw [c257] at p103
      have p258 := p61
      unfold Q7M at p258
      replace hF := hF.neg (by exact om_29dee3b2 pre18)
      replace hP := hP.neg (by exact om_29dee3b2 pre18)
      replace hF := hF.pos (by exact om_d6df5b6a pre18 p100 p258)
      replace hP := hP.pos (by exact om_d6df5b6a pre18 p100 p258)
      clear p258
      refine tr_aload_n dX12_readAlmanac_21 rfl ?_
      refine tr_aload_n dX12_readAlmanac_22 rfl ?_
      refine tr_getR dX12_readAlmanac_23 fl12_188 (kR15 hS81.1 ta0) d2 ?_
      refine tr_getR dX12_readAlmanac_26 fl12_306 (kR14 hS81.1 ta1) d67 ?_
      refine q_iconst dX12_readAlmanac_29 (by decide) ?_
      intro v259 h260
      refine q_bipush dX12_readAlmanac_30 (by decide +kernel) ?_
      intro v261 h262
      refine q_callVi hE (M' := mX12_readRising) (as := [_, _, _]) dX12_readAlmanac_32 lk12_308 inX12_readRising seX12_readRising myX12_readRising (by decide) ⟨by decide, by decide⟩ rfl (kR15 hS81.1 ta0) (Nat.le_of_ble_eq_true rfl) rfl rfl (by decide) (by decide) (fo_X12_readRising hS81.1  ta0 ta66 (by exact om_615c7989 h260) (by exact om_abb56aaf h262) (by (try rw [c252]); first | done | with_reducible assumption | omega)) ?_
      rintro v268 cn' K' N' I263 R264 L265 ⟨rfl, rfl, rfl, rfl, rfl, rfl, p269, -⟩
      refine tr_istore_n dX12_readAlmanac_35 (by decide) (by decide) ?_
      refine tr_aload_n dX12_readAlmanac_36 rfl ?_
      refine q_getI dX12_readAlmanac_37 fl12_99 (kR15 hS81.1 ta0) c252 ?_
      refine q_iconst dX12_readAlmanac_40 (by decide) ?_
      intro v270 h271
      refine q_icmp_ne 45 dX12_readAlmanac_41 (by decide) (fun h272 => ?_) (fun h272 => ?_)
      · skip
        exfalso; exact om_1fa3e129 p101 h271 h272
      · skip
        have eF := hF.eq
        have eP := hP.eq
        obtain ⟨v273, c274⟩ : ∃ v, I73 a0 10 = v := ⟨_, rfl⟩
        have b275 := iv15_10 hS81.1 ta0 c274
        obtain ⟨v276, c277⟩ : ∃ v, I73 a0 11 = v := ⟨_, rfl⟩
        obtain ⟨y278, c279⟩ : ∃ v, L75 a0 15 = v := ⟨_, rfl⟩
        obtain ⟨v280, c281⟩ : ∃ v, I73 a0 12 = v := ⟨_, rfl⟩
        obtain ⟨v282, c283⟩ : ∃ v, I73 a0 8 = v := ⟨_, rfl⟩
        have b284 := iv15_8 hS81.1 ta0 c283
        exact tr_vret hZ dX12_readAlmanac_44 rfl (by decide) (by decide) ⟨rfl, rfl, rfl, rfl, rfl, hS81, (fun b hb => (Option.some.inj (d2.symm.trans hb)) ▸ ((FrM.rf (R := R0) (b := a1) (T := T)).st g76 (by decide +kernel))), (fun dr hd => (Option.some.inj (d2.symm.trans hd)) ▸ hO83), (Or.inr (⟨(by first | done | with_reducible assumption | exact om_3a8e1f7c eF), (by (try rw [c252]); first | done | with_reducible assumption | omega), (by (try rw [c255]); first | done | with_reducible assumption | exact om_b88870c9 p102 eF), (by (try rw [c257]); first | done | with_reducible assumption | exact om_86fa3162 p11 p103 eP), trivial⟩)), trivial⟩
  · skip
    replace hF := hF.pos (by exact om_770cd8d6 pre18 b59.2 b59.1 p60 h68)
    replace hP := hP.pos (by exact om_770cd8d6 pre18 b59.2 b59.1 p60 h68)
    refine tr_aload_n dX12_readAlmanac_10 rfl ?_
    refine q_iconst dX12_readAlmanac_11 (by decide) ?_
    intro v285 h286
    refine q_callVv hE (M' := mX12_flaw) (as := [_]) dX12_readAlmanac_12 lk12_145 inX12_flaw seX12_flaw myX12_flaw (by decide) ⟨by decide, by decide⟩ rfl (kR15 hS0.1 ta0) (Nat.le_of_ble_eq_true rfl) rfl rfl (by decide) (by decide) (fk_X12_flaw hS0.1  ta0 (by exact om_7e011daf h286) (by (try rw [c4]); first | done | with_reducible assumption | exact om_df98ac7c pre0 pre1 b5.2 b5.1 p6)) ?_
    rintro cn' K' N' I287 R288 L289 ⟨rfl, rfl, rfl, rfl, rfl, g290, p293, p294, p295, -⟩
    have hM296 : NmM I287 R0 L0 a1 gQ := NmM.kpS hM0 g290 hS0.1 ta1 (by decide +kernel) (by decide +kernel)
    have hS297 := hS0.tr g290 (by decide +kernel) (by decide +kernel)
    have c298 : I287 a0 10 = v8 := (g290.cell ta0 (by decide +kernel)).trans c9
    have c299 : I287 a0 11 = v12 := (g290.cell ta0 (by decide +kernel)).trans c13
    have c300 : I287 a0 12 = v18 := (g290.cell ta0 (by decide +kernel)).trans c19
    have c301 : I287 a0 8 = v21 := (g290.cell ta0 (by decide +kernel)).trans c22
    have c302 : I287 a1 9 = v57 := (g290.cell ta1 (by decide +kernel)).trans c58
    have hO303 : FrO 14 a1 T I0 I287 := hO0.st g290 (by decide +kernel)
    obtain ⟨v304, c305⟩ : ∃ v, I287 a0 9 = v := ⟨_, rfl⟩
    have b306 := iv15_9 hS297.1 ta0 c305
    rw [c305] at p293
    obtain ⟨v307, c308⟩ : ∃ v, I287 a0 13 = v := ⟨_, rfl⟩
    rw [c308] at p294
    obtain ⟨v309, c310⟩ : ∃ v, I287 a0 14 = v := ⟨_, rfl⟩
    rw [c310] at p295
    rw [c9] at p295
    refine tr_aload_n dX12_readAlmanac_15 rfl ?_
    refine q_iconst dX12_readAlmanac_16 (by decide) ?_
    intro v311 h312
    refine q_iconst dX12_readAlmanac_17 (by decide) ?_
    intro v313 h314
    refine q_callVv hE (M' := mX12_begins) (as := [_, _]) dX12_readAlmanac_18 lk12_268 inX12_begins seX12_begins myX12_begins (by decide) ⟨by decide, by decide⟩ rfl (kR15 hS297.1 ta0) (Nat.le_of_ble_eq_true rfl) rfl rfl (by decide) (by decide) (k_X12_begins hS297.1 ta0 ⟨_, d2⟩) ?_
    rintro cn' K' N' I315 R316 L317 ⟨rfl, rfl, rfl, rfl, g318, p320, w321, -⟩
    have hS322 := hS297.tr g318 (by decide +kernel) (by decide +kernel)
    have c323 : I315 a1 9 = v57 := (g318.cell ta1 (by decide +kernel)).trans c302
    obtain ⟨v324, c325⟩ : ∃ v, I315 a0 9 = v := ⟨_, rfl⟩
    have b326 := iv15_9 hS322.1 ta0 c325
    have gd327 : Gd (I315 a0 9) (v311.toInt ≠ v313.toInt) := p320
    clear p320
    have hO328 : FrO 14 a1 T I0 I315 := hO303.st g318 (by decide +kernel)
    have ov329 := w321.over (by rw [c305]; exact om_394b70a2 p293)
    obtain ⟨v330, c331⟩ : ∃ v, I315 a0 9 = v := ⟨_, rfl⟩
    have b332 := iv15_9 hS322.1 ta0 c331
    obtain ⟨v333, c334⟩ : ∃ v, I315 a0 13 = v := ⟨_, rfl⟩
    obtain ⟨v335, c336⟩ : ∃ v, I315 a0 14 = v := ⟨_, rfl⟩
    (try rw [c331] at ov329)
    (try rw [c334] at ov329)
    (try rw [c336] at ov329)
    (try rw [c305] at ov329)
    (try rw [c308] at ov329)
    (try rw [c310] at ov329)
    refine tr_aload_n dX12_readAlmanac_21 rfl ?_
    refine tr_aload_n dX12_readAlmanac_22 rfl ?_
    refine tr_getR dX12_readAlmanac_23 fl12_188 (kR15 hS322.1 ta0) d2 ?_
    refine tr_getR dX12_readAlmanac_26 fl12_306 (kR14 hS322.1 ta1) d67 ?_
    refine q_iconst dX12_readAlmanac_29 (by decide) ?_
    intro v337 h338
    refine q_bipush dX12_readAlmanac_30 (by decide +kernel) ?_
    intro v339 h340
    refine q_callVi hE (M' := mX12_readRising) (as := [_, _, _]) dX12_readAlmanac_32 lk12_308 inX12_readRising seX12_readRising myX12_readRising (by decide) ⟨by decide, by decide⟩ rfl (kR15 hS322.1 ta0) (Nat.le_of_ble_eq_true rfl) rfl rfl (by decide) (by decide) (fo_X12_readRising hS322.1  ta0 ta66 (by exact om_615c7989 h338) (by exact om_abb56aaf h340) (by (try rw [c331]); first | done | with_reducible assumption | exact om_394b70a2 ov329.1)) ?_
    rintro v346 cn' K' N' I341 R342 L343 ⟨rfl, rfl, rfl, rfl, rfl, rfl, p347, -⟩
    refine tr_istore_n dX12_readAlmanac_35 (by decide) (by decide) ?_
    refine tr_aload_n dX12_readAlmanac_36 rfl ?_
    refine q_getI dX12_readAlmanac_37 fl12_99 (kR15 hS322.1 ta0) c331 ?_
    refine q_iconst dX12_readAlmanac_40 (by decide) ?_
    intro v348 h349
    refine q_icmp_ne 45 dX12_readAlmanac_41 (by decide) (fun h350 => ?_) (fun h350 => ?_)
    · skip
      exfalso; exact om_1fa3e129 ov329.1 h349 h350
    · skip
      have eF := hF.eq
      have eP := hP.eq
      obtain ⟨v351, c352⟩ : ∃ v, I315 a0 10 = v := ⟨_, rfl⟩
      have b353 := iv15_10 hS322.1 ta0 c352
      obtain ⟨v354, c355⟩ : ∃ v, I315 a0 11 = v := ⟨_, rfl⟩
      obtain ⟨y356, c357⟩ : ∃ v, L317 a0 15 = v := ⟨_, rfl⟩
      obtain ⟨v358, c359⟩ : ∃ v, I315 a0 12 = v := ⟨_, rfl⟩
      obtain ⟨v360, c361⟩ : ∃ v, I315 a0 8 = v := ⟨_, rfl⟩
      have b362 := iv15_8 hS322.1 ta0 c361
      exact tr_vret hZ dX12_readAlmanac_44 rfl (by decide) (by decide) ⟨rfl, rfl, rfl, rfl, rfl, hS322, (fun b hb => (Option.some.inj (d2.symm.trans hb)) ▸ (((FrM.rf (R := R0) (b := a1) (T := T)).st g290 (by decide +kernel)).st g318 (by decide +kernel))), (fun dr hd => (Option.some.inj (d2.symm.trans hd)) ▸ hO328), (Or.inr (⟨(by first | done | with_reducible assumption | exact om_c731b21c eF), (by (try rw [c331]); first | done | with_reducible assumption | exact om_394b70a2 ov329.1), (by (try rw [c334]); first | done | with_reducible assumption | exact om_7262b70c h286 p294 ov329.2.1 eF), (by (try rw [c336]); first | done | with_reducible assumption | exact om_3efc13ef p11 p295 ov329.2.2 eP), trivial⟩)), trivial⟩
def wik_X12_readRising_1 : List Nat := [968, 969, 970, 971, 972, 973, 974, 3967]
def wrk_X12_readRising_1 : List Nat := []
def wlk_X12_readRising_1 : List Nat := [975]
set_option maxHeartbeats 4000000 in
theorem fk_X12_readRising_1 {l : Launch} {T : Nat → Nat} {cn : Nat} {K N : Nat → Nat} {I0 : cz_I} {R0 : cz_R} {L0 : cz_L} (hW0 : Wf T cn K N I0 R0 0) (gB : cz_B) (gs : Int) (gQ : Nat → Int) {a0 : Nat} (ta0 : T a0 = 15) {a1 : Nat} (ta1 : T a1 = 61) {x2 : Int32} (hx2 : 0 ≤ x2.toInt ∧ x2.toInt ≤ 32) {x3 : Int32} (hx3 : 8 ≤ x3.toInt ∧ x3.toInt ≤ 8) (hT : ∀ t, R0 a0 5 = some t → Tx I0 t gB) (pre0 : (I0 a0 9).toInt = (tkM gB gs)) (pre1 : (I0 a0 9).toInt ≤ 4) (pre2 : (I0 a0 10).toInt = (tkS gB gs)) (pre3 : (I0 a0 11).toInt = (tkG gB gs)) (pre4 : (AtW ((tkK gB gs)) ((L0 a0 15).toInt) ((tkW gB gs)))) (pre5 : (AtV ((tkK gB gs)) ((I0 a0 12).toInt) ((tkV gB gs)))) (pre6 : (AtN ((tkK gB gs)) ((I0 a0 8).toInt) ((tkN gB gs)))) (pre7 : (I0 a0 7).toInt = (gB.2)) (pre8 : ∀ b1, R0 a0 4 = some b1 → (I0 b1 0).toInt = (gQ 0)) (pre9 : (gQ 0) ≥ 1) (pre10 : x2.toInt ≤ 24) (nn4 : ∃ b, R0 a0 4 = some b) : ConE l mX12_readRising [.ref a0, .ref a1, .int x2, .int x3] cn K N I0 R0 L0 (ca_i (fun v cn' K' N' I' R' L' => cn = cn' ∧ K = K' ∧ N = N' ∧ R0 = R' ∧ St T cn K N 0 wik_X12_readRising_1 wrk_X12_readRising_1 I0 R0 I' R0 ∧ (0 ≤ v.toInt ∧ v.toInt ≤ 8) ∧ (∀ j : Nat, ((j : Int) < x2.toInt ∨ x2.toInt + 8 ≤ (j : Int)) → I' a1 j = I0 a1 j) ∧ (FrO 61 a1 T I0 I') ∧ ((((riF gB gQ 8 0 gs) = 0) ∧ ((I' a0 13).toInt = (I0 a0 13).toInt) ∧ ((I' a0 9).toInt = (tkM gB (riS gB gQ 8 0 gs))) ∧ ((I' a0 9).toInt ≤ 4) ∧ ((I' a0 10).toInt = (tkS gB (riS gB gQ 8 0 gs))) ∧ ((I' a0 11).toInt = (tkG gB (riS gB gQ 8 0 gs))) ∧ ((AtW ((tkK gB (riS gB gQ 8 0 gs))) ((L' a0 15).toInt) ((tkW gB (riS gB gQ 8 0 gs))))) ∧ ((AtV ((tkK gB (riS gB gQ 8 0 gs))) ((I' a0 12).toInt) ((tkV gB (riS gB gQ 8 0 gs))))) ∧ ((AtN ((tkK gB (riS gB gQ 8 0 gs))) ((I' a0 8).toInt) ((tkN gB (riS gB gQ 8 0 gs))))) ∧ (v.toInt = (riC gB 8 gs)) ∧ LgS T wlk_X12_readRising_1 L0 L' ∧ (∀ k : Nat, (k : Int) < riC gB 8 gs → (I' a1 (x2.toInt.toNat + k)).toInt = tkV gB (it2 gB k gs)) ∧ True) ∨ (((riF gB gQ 8 0 gs) ≠ 0) ∧ ((I' a0 9).toInt = 5) ∧ ((I' a0 13).toInt = (riF gB gQ 8 0 gs)) ∧ ((I' a0 14).toInt = (riP gB gQ 8 0 gs)) ∧ True)) ∧ True)) := by
  refine ConE.of (by decide +kernel) rfl (Nat.le_of_ble_eq_true rfl) rfl (fun X hX hZ hE => ?_)
  subst hX
  have hS0 : St T cn K N 0 wik_X12_readRising_1 wrk_X12_readRising_1 I0 R0 I0 R0 := St.rf0 hW0
  have hL0 : LgS T wlk_X12_readRising_1 L0 L0 := LgS.rf0
  obtain ⟨a11, d12⟩ := nn4
  have ta11 : T a11 = 14 := hW0.rsN ta0 rfl d12
  obtain ⟨v13, c14⟩ : ∃ v, I0 a0 9 = v := ⟨_, rfl⟩
  have b15 := iv15_9 hS0.1 ta0 c14
  have p16 := pre0
  rw [c14] at p16
  have p17 := pre1
  rw [c14] at p17
  obtain ⟨v18, c19⟩ : ∃ v, I0 a0 10 = v := ⟨_, rfl⟩
  have b20 := iv15_10 hS0.1 ta0 c19
  have p21 := pre2
  rw [c19] at p21
  obtain ⟨v22, c23⟩ : ∃ v, I0 a0 11 = v := ⟨_, rfl⟩
  have p24 := pre3
  rw [c23] at p24
  obtain ⟨y25, c26⟩ : ∃ v, L0 a0 15 = v := ⟨_, rfl⟩
  have p27 := pre4
  rw [c26] at p27
  obtain ⟨v28, c29⟩ : ∃ v, I0 a0 12 = v := ⟨_, rfl⟩
  have p30 := pre5
  rw [c29] at p30
  obtain ⟨v31, c32⟩ : ∃ v, I0 a0 8 = v := ⟨_, rfl⟩
  have b33 := iv15_8 hS0.1 ta0 c32
  have p34 := pre6
  rw [c32] at p34
  obtain ⟨v35, c36⟩ : ∃ v, I0 a0 7 = v := ⟨_, rfl⟩
  have b37 := iv15_7 hW0 ta0 c36
  have p38 := pre7
  rw [c36] at p38
  obtain ⟨v39, c40⟩ : ∃ v, I0 a11 0 = v := ⟨_, rfl⟩
  have b41 := iv14_0 hW0 ta11 c40
  have p42 := pre8 _ d12
  rw [c40] at p42
  have p43 := pre9
  have p44 := pre10
  obtain ⟨v45, c46⟩ : ∃ v, I0 a0 13 = v := ⟨_, rfl⟩
  have hO0 : FrO 61 a1 T I0 I0 := FrO.rf
  refine q_iconst dX12_readRising_0 (by decide) ?_
  intro v47 h48
  refine tr_istore dX12_readRising_1 (by decide) (by decide) ?_
  refine q_iconst dX12_readRising_3 (by decide) ?_
  intro v49 h50
  refine tr_istore dX12_readRising_4 (by decide) (by decide) ?_
  refine q_iconst dX12_readRising_6 (by decide) ?_
  intro v51 h52
  refine tr_istore dX12_readRising_7 (by decide) (by decide) ?_
  have lp104 : ∀ (fu : Nat) (ls : Nat → Option Value) (v53 : Int32) (v54 : Int32) (v55 : Int32) (I63 : cz_I) (L64 : cz_L) (gs65 : Int) (gr66 : Nat) (v70 : Int32) (v72 : Int32) (v74 : Int32) (v76 : Int32) (y78 : Int64) (v80 : Int32) (v82 : Int32), ls 0 = some (.ref a0) → ls 1 = some (.ref a1) → ls 2 = some (.int x2) → ls 3 = some (.int x3) → ls 4 = some (.int v53) → ls 5 = some (.int v54) → ls 6 = some (.int v55) → St T cn K N 0 wik_X12_readRising_1 wrk_X12_readRising_1 I0 R0 I63 R0 → LgS T wlk_X12_readRising_1 L0 L64 → FrO 61 a1 T I0 I63 → I63 a0 13 = v70 → I63 a0 9 = v72 → I63 a0 10 = v74 → I63 a0 11 = v76 → L64 a0 15 = y78 → I63 a0 12 = v80 → I63 a0 8 = v82 → (riF gB gQ gr66 v54.toInt gs65) = (riF gB gQ 8 0 gs) → (riP gB gQ gr66 v54.toInt gs65) = (riP gB gQ 8 0 gs) → (riS gB gQ gr66 v54.toInt gs65) = (riS gB gQ 8 0 gs) → (riC gB gr66 gs65) + v53.toInt = (riC gB 8 gs) → v55.toInt = 1 → 0 ≤ v54.toInt → v54.toInt ≤ 240 → 0 ≤ v53.toInt → v53.toInt ≤ 8 → ((gr66 : Int)) = -v53.toInt + 8 → v70.toInt = v45.toInt → v72.toInt = (tkM gB gs65) → v72.toInt ≤ 4 → v74.toInt = (tkS gB gs65) → v76.toInt = (tkG gB gs65) → (AtW ((tkK gB gs65)) (y78.toInt) ((tkW gB gs65))) → (AtV ((tkK gB gs65)) (v80.toInt) ((tkV gB gs65))) → (AtN ((tkK gB gs65)) (v82.toInt) ((tkN gB gs65))) → (it2 gB v53.toInt.toNat gs = gs65 ∧ ∀ k : Nat, (k : Int) < v53.toInt → (I63 a1 (x2.toInt.toNat + k)).toInt = tkV gB (it2 gB k gs)) → (∀ j : Nat, ((j : Int) < x2.toInt ∨ x2.toInt + 8 ≤ (j : Int)) → I63 a1 j = I0 a1 j) → (-v53.toInt + 9).toNat < fu → Tr X mX12_readRising 9 ls [] cn K N I63 R0 L64 0 0 := by
    intro fu
    induction fu with
    | zero => intros; rename_i hz; exact absurd hz (Nat.not_lt_zero _)
    | succ fu ih104 =>
      intro ls v53 v54 v55 I63 L64 gs65 gr66 v70 v72 v74 v76 y78 v80 v82 hl56 hl57 hl58 hl59 hl60 hl61 hl62 hS67 hL68 hO69 c71 c73 c75 c77 c79 c81 c83 g84 g85 g86 g87 g88 g89 g90 g91 g92 g93 g94 g95 g96 g97 g98 g99 g100 g101 rw102 rw103 hm104
      have b106 := iv15_9 hS67.1 ta0 c73
      have b107 := iv15_10 hS67.1 ta0 c75
      have b108 := iv15_8 hS67.1 ta0 c83
      rcases Nat.eq_zero_or_pos gr66 with hz109 | hz109
      · skip
        subst hz109
        refine tr_iload dX12_readRising_9 hl62 ?_
        refine q_if_eq 92 dX12_readRising_11 (by decide) (fun h111 => ?_) (fun h111 => ?_)
        · skip
          exfalso; exact om_3624102b g88 h111
        · skip
          refine tr_aload_n dX12_readRising_14 hl56 ?_
          refine q_getI dX12_readRising_15 fl12_99 (kR15 hS67.1 ta0) c73 ?_
          refine q_iconst dX12_readRising_18 (by decide) ?_
          intro v112 h113
          refine q_icmp_eq 92 dX12_readRising_19 (by decide) (fun h114 => ?_) (fun h114 => ?_)
          · skip
            exfalso; exact om_590814ed g95 g96 b106.1 h113 h114
          · skip
            refine tr_aload_n dX12_readRising_22 hl56 ?_
            refine tr_iload dX12_readRising_23 hl61 ?_
            refine tr_aload_n dX12_readRising_25 hl56 ?_
            refine tr_getR dX12_readRising_26 fl12_188 (kR15 hS67.1 ta0) d12 ?_
            refine q_getI dX12_readRising_29 fl12_192 (kR14 hS67.1 ta11) ((hS67.cell ta11 (by decide +kernel)).trans c40) ?_
            refine q_iconst dX12_readRising_32 (by decide) ?_
            intro v115 h116
            refine q_isubE dX12_readRising_33 (by intro j1 j2 j3 j4; exact om_329ab692 pre9 b41.2 b41.1 p42 h116) ?_
            intro v117 h118
            refine q_callVi hE (M' := mX12_bounded) (as := [_, _]) dX12_readRising_34 lk12_153 inX12_bounded seX12_bounded myX12_bounded (by decide) ⟨by decide, by decide⟩ rfl (kR15 hS67.1 ta0) (Nat.le_of_ble_eq_true rfl) rfl rfl (by decide) (by decide) (fk_X12_bounded hS67.1 (gB) (gs65) ta0 (by (try rw [c73]); first | done | with_reducible assumption | omega) (by (try rw [c73]); first | done | with_reducible assumption | omega) (by (try rw [c75]); first | done | with_reducible assumption | omega) (by (try rw [c77]); first | done | with_reducible assumption | omega) (by (try rw [c79]); first | done | assumption) (by (try rw [c81]); first | done | assumption) (by (try rw [c83]); first | done | assumption)) ?_
            rintro v124 cn' K' N' I119 R120 L121 ⟨rfl, rfl, rfl, rfl, rfl, g122, dj125, -⟩
            have hS126 := hS67.tr g122 (by decide +kernel) (by decide +kernel)
            have c127 : I119 a0 10 = v74 := (g122.cell ta0 (by decide +kernel)).trans c75
            have c128 : I119 a0 11 = v76 := (g122.cell ta0 (by decide +kernel)).trans c77
            have c129 : I119 a0 12 = v80 := (g122.cell ta0 (by decide +kernel)).trans c81
            have c130 : I119 a0 8 = v82 := (g122.cell ta0 (by decide +kernel)).trans c83
            have hO131 : FrO 61 a1 T I0 I119 := hO69.st g122 (by decide +kernel)
            rcases dj125 with ⟨p132, p133, p134, p135, p136, p137, p138, p139, p140, p141, p142, p143, -⟩ | ⟨p144, p145, p146, p147, p148, -⟩ | ⟨p149, p150, p151, p152, p153, p154, -⟩
            · skip
              obtain ⟨v155, c156⟩ : ∃ v, I119 a0 13 = v := ⟨_, rfl⟩
              rw [c156] at p136
              rw [c71] at p136
              obtain ⟨v157, c158⟩ : ∃ v, I119 a0 9 = v := ⟨_, rfl⟩
              have b159 := iv15_9 hS126.1 ta0 c158
              rw [c158] at p137
              rw [c158] at p138
              rw [c127] at p139
              rw [c128] at p140
              rw [c79] at p141
              rw [c129] at p142
              rw [c130] at p143
              refine tr_istore dX12_readRising_37 (by decide) (by decide) ?_
              refine tr_iload dX12_readRising_39 hl60 ?_
              refine tr_iload_n dX12_readRising_41 hl59 ?_
              refine q_icmp_ne 50 dX12_readRising_42 (by decide) (fun h160 => ?_) (fun h160 => ?_)
              · skip
                exfalso; exact om_efba7006 hx3.2 hx3.1 g87 g93 h160
              · skip
                refine tr_aload_n dX12_readRising_45 hl56 ?_
                refine q_iconst dX12_readRising_46 (by decide) ?_
                intro v161 h162
                refine q_callVv hE (M' := mX12_flaw) (as := [_]) dX12_readRising_47 lk12_145 inX12_flaw seX12_flaw myX12_flaw (by decide) ⟨by decide, by decide⟩ rfl (kR15 hS126.1 ta0) (Nat.le_of_ble_eq_true rfl) rfl rfl (by decide) (by decide) (fk_X12_flaw hS126.1  ta0 (by exact om_054a361c h162) (by (try rw [c158]); first | done | with_reducible assumption | exact om_25eaf917 g95 g96 b106.1 p137)) ?_
                rintro cn' K' N' I163 R164 L165 ⟨rfl, rfl, rfl, rfl, rfl, g166, p169, p170, p171, -⟩
                have hS172 := hS126.tr g166 (by decide +kernel) (by decide +kernel)
                have c173 : I163 a0 10 = v74 := (g166.cell ta0 (by decide +kernel)).trans c127
                have c174 : I163 a0 11 = v76 := (g166.cell ta0 (by decide +kernel)).trans c128
                have c175 : I163 a0 12 = v80 := (g166.cell ta0 (by decide +kernel)).trans c129
                have c176 : I163 a0 8 = v82 := (g166.cell ta0 (by decide +kernel)).trans c130
                have hO177 : FrO 61 a1 T I0 I163 := hO131.st g166 (by decide +kernel)
                obtain ⟨v178, c179⟩ : ∃ v, I163 a0 9 = v := ⟨_, rfl⟩
                have b180 := iv15_9 hS172.1 ta0 c179
                rw [c179] at p169
                obtain ⟨v181, c182⟩ : ∃ v, I163 a0 13 = v := ⟨_, rfl⟩
                rw [c182] at p170
                obtain ⟨v183, c184⟩ : ∃ v, I163 a0 14 = v := ⟨_, rfl⟩
                rw [c184] at p171
                rw [c127] at p171
                refine tr_aload_n dX12_readRising_50 hl56 ?_
                refine q_callVv hE (M' := mX12_goesOn) (as := []) dX12_readRising_51 lk12_142 inX12_goesOn seX12_goesOn myX12_goesOn (by decide) ⟨by decide, by decide⟩ rfl (kR15 hS172.1 ta0) (Nat.le_of_ble_eq_true rfl) rfl rfl (by decide) (by decide) (k_X12_goesOn hS172.1 ta0) ?_
                rintro cn' K' N' I185 R186 L187 ⟨rfl, rfl, rfl, rfl, g188, p190, p191, p192, w193, -⟩
                have hS194 := hS172.tr g188 (by decide +kernel) (by decide +kernel)
                have c195 : I185 a0 13 = v181 := (g188.cell ta0 (by decide +kernel)).trans c182
                have c196 : I185 a0 14 = v183 := (g188.cell ta0 (by decide +kernel)).trans c184
                obtain ⟨v197, c198⟩ : ∃ v, I185 a0 9 = v := ⟨_, rfl⟩
                have b199 := iv15_9 hS194.1 ta0 c198
                rw [c179] at p190
                rw [c198] at p190
                rw [c179] at p191
                rw [c198] at p191
                obtain ⟨v200, c201⟩ : ∃ v, I185 a0 8 = v := ⟨_, rfl⟩
                have b202 := iv15_8 hS194.1 ta0 c201
                rw [c201] at p192
                rw [c176] at p192
                rw [c195] at p192
                rw [c182] at p192
                have hO203 : FrO 61 a1 T I0 I185 := hO177.st g188 (by decide +kernel)
                have ov204 := w193.over (by rw [c179]; exact om_394b70a2 p169)
                obtain ⟨v205, c206⟩ : ∃ v, I185 a0 9 = v := ⟨_, rfl⟩
                have b207 := iv15_9 hS194.1 ta0 c206
                obtain ⟨v208, c209⟩ : ∃ v, I185 a0 13 = v := ⟨_, rfl⟩
                obtain ⟨v210, c211⟩ : ∃ v, I185 a0 14 = v := ⟨_, rfl⟩
                (try rw [c206] at ov204)
                (try rw [c209] at ov204)
                (try rw [c211] at ov204)
                (try rw [c179] at ov204)
                (try rw [c182] at ov204)
                (try rw [c184] at ov204)
                refine tr_aload_n dX12_readRising_54 hl56 ?_
                refine q_getI dX12_readRising_55 fl12_99 (kR15 hS194.1 ta0) c206 ?_
                refine q_iconst dX12_readRising_58 (by decide) ?_
                intro v212 h213
                refine q_icmp_ne 64 dX12_readRising_59 (by decide) (fun h214 => ?_) (fun h214 => ?_)
                · skip
                  exfalso; exact om_1fa3e129 ov204.1 h213 h214
                · skip
                  refine q_iconst dX12_readRising_62 (by decide) ?_
                  intro v215 h216
                  obtain ⟨v217, c218⟩ : ∃ v, I185 a0 10 = v := ⟨_, rfl⟩
                  have b219 := iv15_10 hS194.1 ta0 c218
                  obtain ⟨v220, c221⟩ : ∃ v, I185 a0 11 = v := ⟨_, rfl⟩
                  obtain ⟨y222, c223⟩ : ∃ v, L187 a0 15 = v := ⟨_, rfl⟩
                  obtain ⟨v224, c225⟩ : ∃ v, I185 a0 12 = v := ⟨_, rfl⟩
                  exact tr_iret hZ dX12_readRising_63 rfl (by decide) (by decide) ⟨v215, rfl, rfl, rfl, rfl, rfl, hS194, (by exact om_7d21acc5 h216), (fun j hj => (Eq.trans ((g188.cell ta1 (wm_no (by decide +kernel))).trans ((g166.cell ta1 (wm_no (by decide +kernel))).trans (g122.cell ta1 (wm_no (by decide +kernel))))) (rw103 j hj))), hO203, (Or.inr (⟨(by rw [← g84]; simp only [riF, ↓reduceIte]; exact om_62e43f65), (by (try rw [c206]); first | done | with_reducible assumption | exact om_394b70a2 ov204.1), (by (try rw [c209]); rw [← g84]; simp only [riF, ↓reduceIte]; exact om_84e7137a p42 h116 h118 p133 p134 p135 h162 p170 ov204.2.1), (by (try rw [c211]); rw [← g85]; simp only [riP, ↓reduceIte]; exact om_1c22ab7e g97 p171 ov204.2.2), trivial⟩)), trivial⟩
            · skip
              obtain ⟨v226, c227⟩ : ∃ v, I119 a0 9 = v := ⟨_, rfl⟩
              have b228 := iv15_9 hS126.1 ta0 c227
              rw [c227] at p146
              obtain ⟨v229, c230⟩ : ∃ v, I119 a0 13 = v := ⟨_, rfl⟩
              rw [c230] at p147
              obtain ⟨v231, c232⟩ : ∃ v, I119 a0 14 = v := ⟨_, rfl⟩
              rw [c232] at p148
              refine tr_istore dX12_readRising_37 (by decide) (by decide) ?_
              refine tr_iload dX12_readRising_39 hl60 ?_
              refine tr_iload_n dX12_readRising_41 hl59 ?_
              refine q_icmp_ne 50 dX12_readRising_42 (by decide) (fun h233 => ?_) (fun h233 => ?_)
              · skip
                exfalso; exact om_efba7006 hx3.2 hx3.1 g87 g93 h233
              · skip
                refine tr_aload_n dX12_readRising_45 hl56 ?_
                refine q_iconst dX12_readRising_46 (by decide) ?_
                intro v234 h235
                refine q_callVv hE (M' := mX12_flaw) (as := [_]) dX12_readRising_47 lk12_145 inX12_flaw seX12_flaw myX12_flaw (by decide) ⟨by decide, by decide⟩ rfl (kR15 hS126.1 ta0) (Nat.le_of_ble_eq_true rfl) rfl rfl (by decide) (by decide) (k_X12_flaw hS126.1 ta0 (by exact om_054a361c h235)) ?_
                rintro cn' K' N' I236 R237 L238 ⟨rfl, rfl, rfl, rfl, rfl, g239, p241, p242, w243, -⟩
                have hS244 := hS126.tr g239 (by decide +kernel) (by decide +kernel)
                have c245 : I236 a0 10 = v74 := (g239.cell ta0 (by decide +kernel)).trans c127
                have c246 : I236 a0 11 = v76 := (g239.cell ta0 (by decide +kernel)).trans c128
                have c247 : I236 a0 12 = v80 := (g239.cell ta0 (by decide +kernel)).trans c129
                have c248 : I236 a0 8 = v82 := (g239.cell ta0 (by decide +kernel)).trans c130
                obtain ⟨v249, c250⟩ : ∃ v, I236 a0 9 = v := ⟨_, rfl⟩
                have b251 := iv15_9 hS244.1 ta0 c250
                rw [c250] at p241
                rw [c248] at p242
                rw [c130] at p242
                have hO252 : FrO 61 a1 T I0 I236 := hO131.st g239 (by decide +kernel)
                have ov253 := w243.over (by rw [c227]; exact om_394b70a2 p146)
                obtain ⟨v254, c255⟩ : ∃ v, I236 a0 9 = v := ⟨_, rfl⟩
                have b256 := iv15_9 hS244.1 ta0 c255
                obtain ⟨v257, c258⟩ : ∃ v, I236 a0 13 = v := ⟨_, rfl⟩
                obtain ⟨v259, c260⟩ : ∃ v, I236 a0 14 = v := ⟨_, rfl⟩
                (try rw [c255] at ov253)
                (try rw [c258] at ov253)
                (try rw [c260] at ov253)
                (try rw [c227] at ov253)
                (try rw [c230] at ov253)
                (try rw [c232] at ov253)
                refine tr_aload_n dX12_readRising_50 hl56 ?_
                refine q_callVv hE (M' := mX12_goesOn) (as := []) dX12_readRising_51 lk12_142 inX12_goesOn seX12_goesOn myX12_goesOn (by decide) ⟨by decide, by decide⟩ rfl (kR15 hS244.1 ta0) (Nat.le_of_ble_eq_true rfl) rfl rfl (by decide) (by decide) (k_X12_goesOn hS244.1 ta0) ?_
                rintro cn' K' N' I261 R262 L263 ⟨rfl, rfl, rfl, rfl, g264, p266, p267, p268, w269, -⟩
                have hS270 := hS244.tr g264 (by decide +kernel) (by decide +kernel)
                have c271 : I261 a0 13 = v257 := (g264.cell ta0 (by decide +kernel)).trans c258
                have c272 : I261 a0 14 = v259 := (g264.cell ta0 (by decide +kernel)).trans c260
                obtain ⟨v273, c274⟩ : ∃ v, I261 a0 9 = v := ⟨_, rfl⟩
                have b275 := iv15_9 hS270.1 ta0 c274
                rw [c255] at p266
                rw [c274] at p266
                rw [c255] at p267
                rw [c274] at p267
                obtain ⟨v276, c277⟩ : ∃ v, I261 a0 8 = v := ⟨_, rfl⟩
                have b278 := iv15_8 hS270.1 ta0 c277
                rw [c277] at p268
                rw [c248] at p268
                rw [c271] at p268
                rw [c258] at p268
                have hO279 : FrO 61 a1 T I0 I261 := hO252.st g264 (by decide +kernel)
                have ov280 := w269.over (by rw [c255]; exact om_394b70a2 ov253.1)
                obtain ⟨v281, c282⟩ : ∃ v, I261 a0 9 = v := ⟨_, rfl⟩
                have b283 := iv15_9 hS270.1 ta0 c282
                obtain ⟨v284, c285⟩ : ∃ v, I261 a0 13 = v := ⟨_, rfl⟩
                obtain ⟨v286, c287⟩ : ∃ v, I261 a0 14 = v := ⟨_, rfl⟩
                (try rw [c282] at ov280)
                (try rw [c285] at ov280)
                (try rw [c287] at ov280)
                (try rw [c255] at ov280)
                (try rw [c258] at ov280)
                (try rw [c260] at ov280)
                refine tr_aload_n dX12_readRising_54 hl56 ?_
                refine q_getI dX12_readRising_55 fl12_99 (kR15 hS270.1 ta0) c282 ?_
                refine q_iconst dX12_readRising_58 (by decide) ?_
                intro v288 h289
                refine q_icmp_ne 64 dX12_readRising_59 (by decide) (fun h290 => ?_) (fun h290 => ?_)
                · skip
                  exfalso; exact om_1fa3e129 ov280.1 h289 h290
                · skip
                  refine q_iconst dX12_readRising_62 (by decide) ?_
                  intro v291 h292
                  obtain ⟨v293, c294⟩ : ∃ v, I261 a0 10 = v := ⟨_, rfl⟩
                  have b295 := iv15_10 hS270.1 ta0 c294
                  obtain ⟨v296, c297⟩ : ∃ v, I261 a0 11 = v := ⟨_, rfl⟩
                  obtain ⟨y298, c299⟩ : ∃ v, L263 a0 15 = v := ⟨_, rfl⟩
                  obtain ⟨v300, c301⟩ : ∃ v, I261 a0 12 = v := ⟨_, rfl⟩
                  exact tr_iret hZ dX12_readRising_63 rfl (by decide) (by decide) ⟨v291, rfl, rfl, rfl, rfl, rfl, hS270, (by exact om_7d21acc5 h292), (fun j hj => (Eq.trans ((g264.cell ta1 (wm_no (by decide +kernel))).trans ((g239.cell ta1 (wm_no (by decide +kernel))).trans (g122.cell ta1 (wm_no (by decide +kernel))))) (rw103 j hj))), hO279, (Or.inr (⟨(by rw [← g84]; simp only [riF, ↓reduceIte]; exact om_24d90ed0 p145), (by (try rw [c282]); first | done | with_reducible assumption | exact om_394b70a2 ov280.1), (by (try rw [c285]); rw [← g84]; simp only [riF, ↓reduceIte]; exact om_1f4892f2 p145 p147 ov253.2.1 ov280.2.1), (by (try rw [c287]); rw [← g85]; simp only [riP, ↓reduceIte]; exact om_1c22ab7e p148 ov253.2.2 ov280.2.2), trivial⟩)), trivial⟩
            · skip
              obtain ⟨v302, c303⟩ : ∃ v, I119 a0 9 = v := ⟨_, rfl⟩
              have b304 := iv15_9 hS126.1 ta0 c303
              rw [c303] at p152
              obtain ⟨v305, c306⟩ : ∃ v, I119 a0 13 = v := ⟨_, rfl⟩
              rw [c306] at p153
              obtain ⟨v307, c308⟩ : ∃ v, I119 a0 14 = v := ⟨_, rfl⟩
              rw [c308] at p154
              refine tr_istore dX12_readRising_37 (by decide) (by decide) ?_
              refine tr_iload dX12_readRising_39 hl60 ?_
              refine tr_iload_n dX12_readRising_41 hl59 ?_
              refine q_icmp_ne 50 dX12_readRising_42 (by decide) (fun h309 => ?_) (fun h309 => ?_)
              · skip
                exfalso; exact om_efba7006 hx3.2 hx3.1 g87 g93 h309
              · skip
                refine tr_aload_n dX12_readRising_45 hl56 ?_
                refine q_iconst dX12_readRising_46 (by decide) ?_
                intro v310 h311
                refine q_callVv hE (M' := mX12_flaw) (as := [_]) dX12_readRising_47 lk12_145 inX12_flaw seX12_flaw myX12_flaw (by decide) ⟨by decide, by decide⟩ rfl (kR15 hS126.1 ta0) (Nat.le_of_ble_eq_true rfl) rfl rfl (by decide) (by decide) (k_X12_flaw hS126.1 ta0 (by exact om_054a361c h311)) ?_
                rintro cn' K' N' I312 R313 L314 ⟨rfl, rfl, rfl, rfl, rfl, g315, p317, p318, w319, -⟩
                have hS320 := hS126.tr g315 (by decide +kernel) (by decide +kernel)
                have c321 : I312 a0 10 = v74 := (g315.cell ta0 (by decide +kernel)).trans c127
                have c322 : I312 a0 11 = v76 := (g315.cell ta0 (by decide +kernel)).trans c128
                have c323 : I312 a0 12 = v80 := (g315.cell ta0 (by decide +kernel)).trans c129
                have c324 : I312 a0 8 = v82 := (g315.cell ta0 (by decide +kernel)).trans c130
                obtain ⟨v325, c326⟩ : ∃ v, I312 a0 9 = v := ⟨_, rfl⟩
                have b327 := iv15_9 hS320.1 ta0 c326
                rw [c326] at p317
                rw [c324] at p318
                rw [c130] at p318
                have hO328 : FrO 61 a1 T I0 I312 := hO131.st g315 (by decide +kernel)
                have ov329 := w319.over (by rw [c303]; exact om_394b70a2 p152)
                obtain ⟨v330, c331⟩ : ∃ v, I312 a0 9 = v := ⟨_, rfl⟩
                have b332 := iv15_9 hS320.1 ta0 c331
                obtain ⟨v333, c334⟩ : ∃ v, I312 a0 13 = v := ⟨_, rfl⟩
                obtain ⟨v335, c336⟩ : ∃ v, I312 a0 14 = v := ⟨_, rfl⟩
                (try rw [c331] at ov329)
                (try rw [c334] at ov329)
                (try rw [c336] at ov329)
                (try rw [c303] at ov329)
                (try rw [c306] at ov329)
                (try rw [c308] at ov329)
                refine tr_aload_n dX12_readRising_50 hl56 ?_
                refine q_callVv hE (M' := mX12_goesOn) (as := []) dX12_readRising_51 lk12_142 inX12_goesOn seX12_goesOn myX12_goesOn (by decide) ⟨by decide, by decide⟩ rfl (kR15 hS320.1 ta0) (Nat.le_of_ble_eq_true rfl) rfl rfl (by decide) (by decide) (k_X12_goesOn hS320.1 ta0) ?_
                rintro cn' K' N' I337 R338 L339 ⟨rfl, rfl, rfl, rfl, g340, p342, p343, p344, w345, -⟩
                have hS346 := hS320.tr g340 (by decide +kernel) (by decide +kernel)
                have c347 : I337 a0 13 = v333 := (g340.cell ta0 (by decide +kernel)).trans c334
                have c348 : I337 a0 14 = v335 := (g340.cell ta0 (by decide +kernel)).trans c336
                obtain ⟨v349, c350⟩ : ∃ v, I337 a0 9 = v := ⟨_, rfl⟩
                have b351 := iv15_9 hS346.1 ta0 c350
                rw [c331] at p342
                rw [c350] at p342
                rw [c331] at p343
                rw [c350] at p343
                obtain ⟨v352, c353⟩ : ∃ v, I337 a0 8 = v := ⟨_, rfl⟩
                have b354 := iv15_8 hS346.1 ta0 c353
                rw [c353] at p344
                rw [c324] at p344
                rw [c347] at p344
                rw [c334] at p344
                have hO355 : FrO 61 a1 T I0 I337 := hO328.st g340 (by decide +kernel)
                have ov356 := w345.over (by rw [c331]; exact om_394b70a2 ov329.1)
                obtain ⟨v357, c358⟩ : ∃ v, I337 a0 9 = v := ⟨_, rfl⟩
                have b359 := iv15_9 hS346.1 ta0 c358
                obtain ⟨v360, c361⟩ : ∃ v, I337 a0 13 = v := ⟨_, rfl⟩
                obtain ⟨v362, c363⟩ : ∃ v, I337 a0 14 = v := ⟨_, rfl⟩
                (try rw [c358] at ov356)
                (try rw [c361] at ov356)
                (try rw [c363] at ov356)
                (try rw [c331] at ov356)
                (try rw [c334] at ov356)
                (try rw [c336] at ov356)
                refine tr_aload_n dX12_readRising_54 hl56 ?_
                refine q_getI dX12_readRising_55 fl12_99 (kR15 hS346.1 ta0) c358 ?_
                refine q_iconst dX12_readRising_58 (by decide) ?_
                intro v364 h365
                refine q_icmp_ne 64 dX12_readRising_59 (by decide) (fun h366 => ?_) (fun h366 => ?_)
                · skip
                  exfalso; exact om_1fa3e129 ov356.1 h365 h366
                · skip
                  refine q_iconst dX12_readRising_62 (by decide) ?_
                  intro v367 h368
                  obtain ⟨v369, c370⟩ : ∃ v, I337 a0 10 = v := ⟨_, rfl⟩
                  have b371 := iv15_10 hS346.1 ta0 c370
                  obtain ⟨v372, c373⟩ : ∃ v, I337 a0 11 = v := ⟨_, rfl⟩
                  obtain ⟨y374, c375⟩ : ∃ v, L339 a0 15 = v := ⟨_, rfl⟩
                  obtain ⟨v376, c377⟩ : ∃ v, I337 a0 12 = v := ⟨_, rfl⟩
                  exact tr_iret hZ dX12_readRising_63 rfl (by decide) (by decide) ⟨v367, rfl, rfl, rfl, rfl, rfl, hS346, (by exact om_7d21acc5 h368), (fun j hj => (Eq.trans ((g340.cell ta1 (wm_no (by decide +kernel))).trans ((g315.cell ta1 (wm_no (by decide +kernel))).trans (g122.cell ta1 (wm_no (by decide +kernel))))) (rw103 j hj))), hO355, (Or.inr (⟨(by rw [← g84]; simp only [riF, ↓reduceIte]; exact om_62e43f65), (by (try rw [c358]); first | done | with_reducible assumption | exact om_394b70a2 ov356.1), (by (try rw [c361]); rw [← g84]; simp only [riF, ↓reduceIte]; exact om_81a00778 p42 h116 h118 p150 p151 p153 ov329.1 ov329.2.1 p343 p342 b351.2 b351.1 ov356.2.1), (by (try rw [c363]); rw [← g85]; simp only [riP, ↓reduceIte]; exact om_1c22ab7e p154 ov329.2.2 ov356.2.2), trivial⟩)), trivial⟩
      · skip
        obtain ⟨gk110, rfl⟩ : ∃ k, gr66 = k + 1 := ⟨gr66 - 1, by exact om_87755ad8 g91 g92 g93 hz109⟩
        refine tr_iload dX12_readRising_9 hl62 ?_
        refine q_if_eq 92 dX12_readRising_11 (by decide) (fun h378 => ?_) (fun h378 => ?_)
        · skip
          exfalso; exact om_3624102b g88 h378
        · skip
          refine tr_aload_n dX12_readRising_14 hl56 ?_
          refine q_getI dX12_readRising_15 fl12_99 (kR15 hS67.1 ta0) c73 ?_
          refine q_iconst dX12_readRising_18 (by decide) ?_
          intro v379 h380
          refine q_icmp_eq 92 dX12_readRising_19 (by decide) (fun h381 => ?_) (fun h381 => ?_)
          · skip
            exfalso; exact om_590814ed g95 g96 b106.1 h380 h381
          · skip
            refine tr_aload_n dX12_readRising_22 hl56 ?_
            refine tr_iload dX12_readRising_23 hl61 ?_
            refine tr_aload_n dX12_readRising_25 hl56 ?_
            refine tr_getR dX12_readRising_26 fl12_188 (kR15 hS67.1 ta0) d12 ?_
            refine q_getI dX12_readRising_29 fl12_192 (kR14 hS67.1 ta11) ((hS67.cell ta11 (by decide +kernel)).trans c40) ?_
            refine q_iconst dX12_readRising_32 (by decide) ?_
            intro v382 h383
            refine q_isubE dX12_readRising_33 (by intro j1 j2 j3 j4; exact om_329ab692 pre9 b41.2 b41.1 p42 h383) ?_
            intro v384 h385
            refine q_callVi hE (M' := mX12_bounded) (as := [_, _]) dX12_readRising_34 lk12_153 inX12_bounded seX12_bounded myX12_bounded (by decide) ⟨by decide, by decide⟩ rfl (kR15 hS67.1 ta0) (Nat.le_of_ble_eq_true rfl) rfl rfl (by decide) (by decide) (fk_X12_bounded hS67.1 (gB) (gs65) ta0 (by (try rw [c73]); first | done | with_reducible assumption | omega) (by (try rw [c73]); first | done | with_reducible assumption | omega) (by (try rw [c75]); first | done | with_reducible assumption | omega) (by (try rw [c77]); first | done | with_reducible assumption | omega) (by (try rw [c79]); first | done | assumption) (by (try rw [c81]); first | done | assumption) (by (try rw [c83]); first | done | assumption)) ?_
            rintro v391 cn' K' N' I386 R387 L388 ⟨rfl, rfl, rfl, rfl, rfl, g389, dj392, -⟩
            have hS393 := hS67.tr g389 (by decide +kernel) (by decide +kernel)
            have c394 : I386 a0 10 = v74 := (g389.cell ta0 (by decide +kernel)).trans c75
            have c395 : I386 a0 11 = v76 := (g389.cell ta0 (by decide +kernel)).trans c77
            have c396 : I386 a0 12 = v80 := (g389.cell ta0 (by decide +kernel)).trans c81
            have c397 : I386 a0 8 = v82 := (g389.cell ta0 (by decide +kernel)).trans c83
            have hO398 : FrO 61 a1 T I0 I386 := hO69.st g389 (by decide +kernel)
            rcases dj392 with ⟨p399, p400, p401, p402, p403, p404, p405, p406, p407, p408, p409, p410, -⟩ | ⟨p411, p412, p413, p414, p415, -⟩ | ⟨p416, p417, p418, p419, p420, p421, -⟩
            · skip
              obtain ⟨v422, c423⟩ : ∃ v, I386 a0 13 = v := ⟨_, rfl⟩
              rw [c423] at p403
              rw [c71] at p403
              obtain ⟨v424, c425⟩ : ∃ v, I386 a0 9 = v := ⟨_, rfl⟩
              have b426 := iv15_9 hS393.1 ta0 c425
              rw [c425] at p404
              rw [c425] at p405
              rw [c394] at p406
              rw [c395] at p407
              rw [c79] at p408
              rw [c396] at p409
              rw [c397] at p410
              refine tr_istore dX12_readRising_37 (by decide) (by decide) ?_
              refine tr_iload dX12_readRising_39 hl60 ?_
              refine tr_iload_n dX12_readRising_41 hl59 ?_
              refine q_icmp_ne 50 dX12_readRising_42 (by decide) (fun h427 => ?_) (fun h427 => ?_)
              · skip
                refine tr_aload_n dX12_readRising_50 hl56 ?_
                have p428 := p410 (by exact om_cab07503 p400)
                refine q_callVv hE (M' := mX12_goesOn) (as := []) dX12_readRising_51 lk12_142 inX12_goesOn seX12_goesOn myX12_goesOn (by decide) ⟨by decide, by decide⟩ rfl (kR15 hS393.1 ta0) (Nat.le_of_ble_eq_true rfl) rfl rfl (by decide) (by decide) (fk_X12_goesOn hS393.1 (gB) ((tkN gB gs65)) ta0 (TxA.kp hT hS393 ta0 rfl rfl rfl (by decide +kernel) (by decide +kernel)) (by (try rw [c397]); first | done | with_reducible assumption | omega) (by (try rw [((hS393.cell ta0 (by decide +kernel)).trans c36)]); first | done | with_reducible assumption | omega) (by (try rw [c425]); first | done | with_reducible assumption | exact om_25eaf917 g95 g96 b106.1 p404)) ?_
                rintro cn' K' N' I429 R430 L431 ⟨rfl, rfl, rfl, rfl, g432, gl433, p435, p436, p437, p438, p439, p440, p441, -⟩
                have hS442 := hS393.tr g432 (by decide +kernel) (by decide +kernel)
                have c443 : I429 a0 13 = v422 := (g432.cell ta0 (by decide +kernel)).trans c423
                have hO444 : FrO 61 a1 T I0 I429 := hO398.st g432 (by decide +kernel)
                have hL445 := hL68.tr gl433 (by decide +kernel)
                obtain ⟨v446, c447⟩ : ∃ v, I429 a0 9 = v := ⟨_, rfl⟩
                have b448 := iv15_9 hS442.1 ta0 c447
                rw [c447] at p435
                rw [c447] at p436
                obtain ⟨v449, c450⟩ : ∃ v, I429 a0 10 = v := ⟨_, rfl⟩
                have b451 := iv15_10 hS442.1 ta0 c450
                rw [c450] at p437
                obtain ⟨v452, c453⟩ : ∃ v, I429 a0 11 = v := ⟨_, rfl⟩
                rw [c453] at p438
                obtain ⟨y454, c455⟩ : ∃ v, L431 a0 15 = v := ⟨_, rfl⟩
                rw [c455] at p439
                obtain ⟨v456, c457⟩ : ∃ v, I429 a0 12 = v := ⟨_, rfl⟩
                rw [c457] at p440
                obtain ⟨v458, c459⟩ : ∃ v, I429 a0 8 = v := ⟨_, rfl⟩
                have b460 := iv15_8 hS442.1 ta0 c459
                rw [c459] at p441
                refine tr_aload_n dX12_readRising_54 hl56 ?_
                refine q_getI dX12_readRising_55 fl12_99 (kR15 hS442.1 ta0) c447 ?_
                refine q_iconst dX12_readRising_58 (by decide) ?_
                intro v461 h462
                refine q_icmp_ne 64 dX12_readRising_59 (by decide) (fun h463 => ?_) (fun h463 => ?_)
                · skip
                  refine tr_aload_n dX12_readRising_64 hl57 ?_
                  refine tr_iload_n dX12_readRising_65 hl58 ?_
                  refine tr_iload dX12_readRising_66 hl60 ?_
                  refine q_iaddE dX12_readRising_68 (by intro j1 j2 j3 j4; exact om_68d7e6c3 hx2.2 hx2.1 pre10 g91 g92 g87 g93) ?_
                  intro v464 h465
                  refine tr_iload dX12_readRising_69 rfl ?_
                  refine q_iast dX12_readRising_71 (kR61 hS442.1 ta1) (ti_in (nR61 hS442.1 ta1) (by exact om_93c519c4 hx2.2 hx2.1 pre10 g91 g92 g87 g93 h465) (by exact om_91947010 hx2.2 hx2.1 pre10 g91 g92 g87 g93 h465)) hS442 ta1 (by show (0 : Int) ≤ v391.toInt ∧ v391.toInt ≤ (239 : Int); exact om_b00d04b4 pre9 b41.2 b41.1 p42 g89 g90 h383 h385 p399 p401 p402) rfl (by rfl) ?_
                  intro I466 hS467 e469 f468
                  have c470 : I466 a0 13 = v422 := (f468 _ _ (fun q => by have z := ta0; rw [q.1, ta1] at z; exact absurd z (by decide))).trans c443
                  have c471 : I466 a0 9 = v446 := (f468 _ _ (fun q => by have z := ta0; rw [q.1, ta1] at z; exact absurd z (by decide))).trans c447
                  have c472 : I466 a0 10 = v449 := (f468 _ _ (fun q => by have z := ta0; rw [q.1, ta1] at z; exact absurd z (by decide))).trans c450
                  have c473 : I466 a0 11 = v452 := (f468 _ _ (fun q => by have z := ta0; rw [q.1, ta1] at z; exact absurd z (by decide))).trans c453
                  have c474 : I466 a0 12 = v456 := (f468 _ _ (fun q => by have z := ta0; rw [q.1, ta1] at z; exact absurd z (by decide))).trans c457
                  have c475 : I466 a0 8 = v458 := (f468 _ _ (fun q => by have z := ta0; rw [q.1, ta1] at z; exact absurd z (by decide))).trans c459
                  have hO476 : FrO 61 a1 T I0 I466 := hO444.put f468 ta1 (Or.inr rfl)
                  refine q_iincE dX12_readRising_72 hl60 (by decide) (by decide) (by intro j1 j2; exact om_bc01395c g91 g92 g87 g93) ?_
                  intro v477 h478
                  refine tr_iload dX12_readRising_75 rfl ?_
                  refine q_iconst dX12_readRising_77 (by decide) ?_
                  intro v479 h480
                  refine q_iaddE dX12_readRising_78 (by intro j1 j2 j3 j4; exact om_c223b25f pre9 b41.2 b41.1 p42 g89 g90 h383 h385 p399 p401 p402 h480 j1 j2) ?_
                  intro v481 h482
                  refine tr_istore dX12_readRising_79 (by decide) (by decide) ?_
                  refine tr_aload_n dX12_readRising_81 hl56 ?_
                  refine q_bipush dX12_readRising_82 (by decide +kernel) ?_
                  intro v483 h484
                  refine q_callVi hE (M' := mX12_eatsSign) (as := [_]) dX12_readRising_84 lk12_221 inX12_eatsSign seX12_eatsSign myX12_eatsSign (by decide) ⟨by decide, by decide⟩ rfl (kR15 hS467.1 ta0) (Nat.le_of_ble_eq_true rfl) rfl rfl (by decide) (by decide) (fk_X12_eatsSign hS467.1 (gB) ((tkN gB gs65)) ta0 (TxA.kp hT hS467 ta0 rfl rfl rfl (by decide +kernel) (by decide +kernel)) (by (try rw [c471]); first | done | with_reducible assumption | omega) (by (try rw [c471]); first | done | with_reducible assumption | omega) (by (try rw [c472]); first | done | with_reducible assumption | omega) (by (try rw [c473]); first | done | with_reducible assumption | omega) (by (try rw [c455]); first | done | assumption) (by (try rw [c474]); first | done | assumption) (by (try rw [c475]); first | done | assumption) (by (try rw [((hS467.cell ta0 (by decide +kernel)).trans c36)]); first | done | with_reducible assumption | omega) (by first | done | with_reducible assumption | exact om_00f2e567 h484)) ?_
                  rintro v490 cn' K' N' I485 R486 L487 ⟨rfl, rfl, rfl, rfl, g488, gl489, h491, dj492, -⟩
                  have hS493 := hS467.tr g488 (by decide +kernel) (by decide +kernel)
                  have c494 : I485 a0 13 = v422 := (g488.cell ta0 (by decide +kernel)).trans c470
                  have hO495 : FrO 61 a1 T I0 I485 := hO476.st g488 (by decide +kernel)
                  have hL496 := hL445.tr gl489 (by decide +kernel)
                  rcases dj492 with ⟨p497, p498, p499, p500, p501, p502, p503, p504, p505, p506, -⟩ | ⟨p507, p508, p509, p510, p511, p512, p513, p514, p515, p516, -⟩
                  · skip
                    rw [c494] at p499
                    rw [c470] at p499
                    obtain ⟨v517, c518⟩ : ∃ v, I485 a0 9 = v := ⟨_, rfl⟩
                    have b519 := iv15_9 hS493.1 ta0 c518
                    rw [c518] at p500
                    rw [c518] at p501
                    obtain ⟨v520, c521⟩ : ∃ v, I485 a0 10 = v := ⟨_, rfl⟩
                    have b522 := iv15_10 hS493.1 ta0 c521
                    rw [c521] at p502
                    obtain ⟨v523, c524⟩ : ∃ v, I485 a0 11 = v := ⟨_, rfl⟩
                    rw [c524] at p503
                    obtain ⟨y525, c526⟩ : ∃ v, L487 a0 15 = v := ⟨_, rfl⟩
                    rw [c526] at p504
                    obtain ⟨v527, c528⟩ : ∃ v, I485 a0 12 = v := ⟨_, rfl⟩
                    rw [c528] at p505
                    obtain ⟨v529, c530⟩ : ∃ v, I485 a0 8 = v := ⟨_, rfl⟩
                    have b531 := iv15_8 hS493.1 ta0 c530
                    rw [c530] at p506
                    refine tr_istore dX12_readRising_87 (by decide) (by decide) ?_
                    refine tr_goto 9 dX12_readRising_89 (by decide) ?_
                    exact ih104 _ v477 v481 v490 I485 L487 ((tkN gB (tkN gB gs65))) (gk110) v422 v517 v520 v523 y525 v527 v529 hl56 hl57 hl58 hl59 rfl rfl rfl hS493 hL496 hO495 c494 c518 c521 c524 c526 c528 c530 (by rw [← g84]; simp only [riF, ↓reduceIte]; rw [show v481.toInt = tkV gB gs65 + 1 by exact om_58c7f992 p399 h480 h482]; repeat' (first | split | omega)) (by rw [← g85]; simp only [riP, ↓reduceIte]; rw [show v481.toInt = tkV gB gs65 + 1 by exact om_58c7f992 p399 h480 h482]; repeat' (first | split | omega)) (by rw [← g86]; simp only [riS, ↓reduceIte]; rw [show v481.toInt = tkV gB gs65 + 1 by exact om_58c7f992 p399 h480 h482]; repeat' (first | split | omega)) (by rw [← g87]; simp only [riC, ↓reduceIte]; exact om_690db16a g87 g93 h478 h484 p498) (by exact om_ee8a1e2d p497) (by exact om_63134851 g89 g90 p399 p401 h480 h482) (by exact om_8691eab6 pre9 b41.2 b41.1 p42 h383 h385 p399 p402 h480 h482) (by exact om_b267843c g91 g92 g87 g93 h478) (by exact om_f55cb06b g91 g92 g87 g93 h478) (by exact om_41c8d548 g87 g93 h478) (by exact om_9fa72578 g94 p403) (by exact om_acd7a85a p500) (by exact om_fc4b6669 p501) (by exact om_acd7a85a p502) (by exact om_acd7a85a p503) (by assumption) (by assumption) (by assumption) ⟨by rw [show v477.toInt.toNat = v53.toInt.toNat + 1 by exact om_3b10200a g91 g92 g87 g93 h478, it2_on, rw102.1], fun k hk => by by_cases z : (k : Int) < v53.toInt; exact (congrArg Int32.toInt ((g488.cell ta1 (wm_no (by decide +kernel))).trans ((f468 _ _ (fun q => by have z1 := q.2; have z3 := ti_nat (i := v464) (by exact om_eba32090 hx2.2 hx2.1 pre10 g91 g92 g87 g93 h465 h478); exact om_6b0eedbb hx2.2 hx2.1 pre10 g87 g93 h465 h478 z q.2 z3)).trans ((g432.cell ta1 (wm_no (by decide +kernel))).trans (g389.cell ta1 (wm_no (by decide +kernel))))))).trans (rw102.2 k z); have y := ti_nat (i := v464) (by exact om_7e2080fe hx2.2 hx2.1 pre10 g91 g92 g87 g93 h465 h478 hk z); have hk2 : (k : Int) = v53.toInt := (by exact om_91614371 g87 g93 h478 hk z); rw [show x2.toInt.toNat + k = v464.toNatClampNeg by exact om_05adf92d hx2.2 hx2.1 pre10 g87 g93 h465 h478 hk z y, show I485 a1 v464.toNatClampNeg = _ from (Eq.trans (g488.cell ta1 (wm_no (by decide +kernel))) e469), show k = v53.toInt.toNat by exact om_57079acc g91 g92 g87 g93 h478 hk z, rw102.1]; exact om_acd7a85a p399⟩ (fun j hj => (Eq.trans ((g488.cell ta1 (wm_no (by decide +kernel))).trans ((f468 _ _ (fun q => by have z1 := q.2; have z3 := ti_nat (i := v464) (by exact om_eba32090 hx2.2 hx2.1 pre10 g91 g92 g87 g93 h465 h478); exact om_44b06bf4 hx2.2 hx2.1 pre10 g91 g92 g87 g93 h465 h478 hj q.2 z3)).trans ((g432.cell ta1 (wm_no (by decide +kernel))).trans (g389.cell ta1 (wm_no (by decide +kernel)))))) (rw103 j hj))) (by exact om_4bf39218 hx3.2 hx3.1 g88 g91 g92 g95 g96 hm104 b106.1 g87 g93 h378 h380 h381 p404 h427 p436 p435 b448.1 h462 h463 h478)
                  · skip
                    rw [c494] at p509
                    rw [c470] at p509
                    obtain ⟨v532, c533⟩ : ∃ v, I485 a0 9 = v := ⟨_, rfl⟩
                    have b534 := iv15_9 hS493.1 ta0 c533
                    rw [c533] at p510
                    rw [c533] at p511
                    obtain ⟨v535, c536⟩ : ∃ v, I485 a0 10 = v := ⟨_, rfl⟩
                    have b537 := iv15_10 hS493.1 ta0 c536
                    rw [c536] at p512
                    obtain ⟨v538, c539⟩ : ∃ v, I485 a0 11 = v := ⟨_, rfl⟩
                    rw [c539] at p513
                    obtain ⟨y540, c541⟩ : ∃ v, L487 a0 15 = v := ⟨_, rfl⟩
                    rw [c541] at p514
                    obtain ⟨v542, c543⟩ : ∃ v, I485 a0 12 = v := ⟨_, rfl⟩
                    rw [c543] at p515
                    obtain ⟨v544, c545⟩ : ∃ v, I485 a0 8 = v := ⟨_, rfl⟩
                    have b546 := iv15_8 hS493.1 ta0 c545
                    rw [c545] at p516
                    refine tr_istore dX12_readRising_87 (by decide) (by decide) ?_
                    refine tr_goto 9 dX12_readRising_89 (by decide) ?_
                    refine tr_iload dX12_readRising_9 rfl ?_
                    refine q_if_eq 92 dX12_readRising_11 (by decide) (fun h547 => ?_) (fun h547 => ?_)
                    · skip
                      refine tr_iload dX12_readRising_92 rfl ?_
                      have es548 : riS gB gQ 8 0 gs = (tkN gB gs65) := by rw [← g86]; simp only [riS, ↓reduceIte]; exact om_f7ae9107 h484 p508
                      obtain ⟨v549, c550⟩ : ∃ v, I485 a0 14 = v := ⟨_, rfl⟩
                      exact tr_iret hZ dX12_readRising_94 rfl (by decide) (by decide) ⟨v477, rfl, rfl, rfl, rfl, rfl, hS493, (by exact om_b116c189 g91 g92 g87 g93 h478), (fun j hj => (Eq.trans ((g488.cell ta1 (wm_no (by decide +kernel))).trans ((f468 _ _ (fun q => by have z1 := q.2; have z3 := ti_nat (i := v464) (by exact om_eba32090 hx2.2 hx2.1 pre10 g91 g92 g87 g93 h465 h478); exact om_44b06bf4 hx2.2 hx2.1 pre10 g91 g92 g87 g93 h465 h478 hj q.2 z3)).trans ((g432.cell ta1 (wm_no (by decide +kernel))).trans (g389.cell ta1 (wm_no (by decide +kernel)))))) (rw103 j hj))), hO495, (Or.inl ⟨(by rw [← g84]; simp only [riF, ↓reduceIte]; exact om_bd7149ef p42 h383 h385 p399 p400 p401 p402 h480 h482 h484 p508), (by (try rw [es548]); (try rw [c494]); (try rw [c46]); first | done | with_reducible assumption | exact om_9fa72578 g94 p403), (by (try rw [es548]); (try rw [c533]); first | done | with_reducible assumption | omega), (by (try rw [es548]); (try rw [c533]); first | done | with_reducible assumption | omega), (by (try rw [es548]); (try rw [c536]); first | done | with_reducible assumption | omega), (by (try rw [es548]); (try rw [c539]); first | done | with_reducible assumption | omega), (by (try rw [es548]); (try rw [c541]); first | done | assumption), (by (try rw [es548]); (try rw [c543]); first | done | assumption), (by (try rw [es548]); (try rw [c545]); first | done | assumption), (by rw [← g87]; simp only [riC, ↓reduceIte]; exact om_96481560 g87 g93 h478 h484 p508), hL496, (fun k hk => by have hc : riC gB 8 gs = v53.toInt + 1 := (by rw [← g87]; simp only [riC, ↓reduceIte]; exact om_71fc3a63 h484 p508); by_cases z : (k : Int) < v53.toInt; exact (congrArg Int32.toInt ((g488.cell ta1 (wm_no (by decide +kernel))).trans ((f468 _ _ (fun q => by have z1 := q.2; have z3 := ti_nat (i := v464) (by exact om_eba32090 hx2.2 hx2.1 pre10 g91 g92 g87 g93 h465 h478); exact om_6b0eedbb hx2.2 hx2.1 pre10 g87 g93 h465 h478 z q.2 z3)).trans ((g432.cell ta1 (wm_no (by decide +kernel))).trans (g389.cell ta1 (wm_no (by decide +kernel))))))).trans (rw102.2 k z); have y := ti_nat (i := v464) (by exact om_59774c4e hx2.2 hx2.1 pre10 g91 g92 g87 g93 h465 h478 hk hc z); have hk2 : (k : Int) = v53.toInt := (by exact om_4e7cfbf7 g87 g93 h478 hk hc z); rw [show x2.toInt.toNat + k = v464.toNatClampNeg by exact om_e2db8ab1 hx2.2 hx2.1 pre10 g87 g93 h465 h478 hk hc z y, show I485 a1 v464.toNatClampNeg = _ from (Eq.trans (g488.cell ta1 (wm_no (by decide +kernel))) e469), show k = v53.toInt.toNat by exact om_80e2817e g91 g92 g87 g93 h478 hk hc z, rw102.1]; exact om_acd7a85a p399), trivial⟩), trivial⟩
                    · skip
                      exfalso; exact om_3a97d4a5 p507 h547
                · skip
                  exfalso; exact om_99cda0b7 p436 p435 b448.1 h462 h463
              · skip
                exfalso; exact om_790212d5 hx3.2 hx3.1 g91 g92 g87 g93 h427
            · skip
              obtain ⟨v551, c552⟩ : ∃ v, I386 a0 9 = v := ⟨_, rfl⟩
              have b553 := iv15_9 hS393.1 ta0 c552
              rw [c552] at p413
              obtain ⟨v554, c555⟩ : ∃ v, I386 a0 13 = v := ⟨_, rfl⟩
              rw [c555] at p414
              obtain ⟨v556, c557⟩ : ∃ v, I386 a0 14 = v := ⟨_, rfl⟩
              rw [c557] at p415
              refine tr_istore dX12_readRising_37 (by decide) (by decide) ?_
              refine tr_iload dX12_readRising_39 hl60 ?_
              refine tr_iload_n dX12_readRising_41 hl59 ?_
              refine q_icmp_ne 50 dX12_readRising_42 (by decide) (fun h558 => ?_) (fun h558 => ?_)
              · skip
                refine tr_aload_n dX12_readRising_50 hl56 ?_
                refine q_callVv hE (M' := mX12_goesOn) (as := []) dX12_readRising_51 lk12_142 inX12_goesOn seX12_goesOn myX12_goesOn (by decide) ⟨by decide, by decide⟩ rfl (kR15 hS393.1 ta0) (Nat.le_of_ble_eq_true rfl) rfl rfl (by decide) (by decide) (k_X12_goesOn hS393.1 ta0) ?_
                rintro cn' K' N' I559 R560 L561 ⟨rfl, rfl, rfl, rfl, g562, p564, p565, p566, w567, -⟩
                have hS568 := hS393.tr g562 (by decide +kernel) (by decide +kernel)
                have c569 : I559 a0 13 = v554 := (g562.cell ta0 (by decide +kernel)).trans c555
                have c570 : I559 a0 14 = v556 := (g562.cell ta0 (by decide +kernel)).trans c557
                obtain ⟨v571, c572⟩ : ∃ v, I559 a0 9 = v := ⟨_, rfl⟩
                have b573 := iv15_9 hS568.1 ta0 c572
                rw [c552] at p564
                rw [c572] at p564
                rw [c552] at p565
                rw [c572] at p565
                obtain ⟨v574, c575⟩ : ∃ v, I559 a0 8 = v := ⟨_, rfl⟩
                have b576 := iv15_8 hS568.1 ta0 c575
                rw [c575] at p566
                rw [c397] at p566
                rw [c569] at p566
                rw [c555] at p566
                have hO577 : FrO 61 a1 T I0 I559 := hO398.st g562 (by decide +kernel)
                have ov578 := w567.over (by rw [c552]; exact om_394b70a2 p413)
                obtain ⟨v579, c580⟩ : ∃ v, I559 a0 9 = v := ⟨_, rfl⟩
                have b581 := iv15_9 hS568.1 ta0 c580
                obtain ⟨v582, c583⟩ : ∃ v, I559 a0 13 = v := ⟨_, rfl⟩
                obtain ⟨v584, c585⟩ : ∃ v, I559 a0 14 = v := ⟨_, rfl⟩
                (try rw [c580] at ov578)
                (try rw [c583] at ov578)
                (try rw [c585] at ov578)
                (try rw [c552] at ov578)
                (try rw [c555] at ov578)
                (try rw [c557] at ov578)
                refine tr_aload_n dX12_readRising_54 hl56 ?_
                refine q_getI dX12_readRising_55 fl12_99 (kR15 hS568.1 ta0) c580 ?_
                refine q_iconst dX12_readRising_58 (by decide) ?_
                intro v586 h587
                refine q_icmp_ne 64 dX12_readRising_59 (by decide) (fun h588 => ?_) (fun h588 => ?_)
                · skip
                  exfalso; exact om_1fa3e129 ov578.1 h587 h588
                · skip
                  refine q_iconst dX12_readRising_62 (by decide) ?_
                  intro v589 h590
                  obtain ⟨v591, c592⟩ : ∃ v, I559 a0 10 = v := ⟨_, rfl⟩
                  have b593 := iv15_10 hS568.1 ta0 c592
                  obtain ⟨v594, c595⟩ : ∃ v, I559 a0 11 = v := ⟨_, rfl⟩
                  obtain ⟨y596, c597⟩ : ∃ v, L561 a0 15 = v := ⟨_, rfl⟩
                  obtain ⟨v598, c599⟩ : ∃ v, I559 a0 12 = v := ⟨_, rfl⟩
                  exact tr_iret hZ dX12_readRising_63 rfl (by decide) (by decide) ⟨v589, rfl, rfl, rfl, rfl, rfl, hS568, (by exact om_7d21acc5 h590), (fun j hj => (Eq.trans ((g562.cell ta1 (wm_no (by decide +kernel))).trans (g389.cell ta1 (wm_no (by decide +kernel)))) (rw103 j hj))), hO577, (Or.inr (⟨(by rw [← g84]; simp only [riF, ↓reduceIte]; exact om_fd03680b p412), (by (try rw [c580]); first | done | with_reducible assumption | exact om_394b70a2 ov578.1), (by (try rw [c583]); rw [← g84]; simp only [riF, ↓reduceIte]; exact om_807ede3a p412 p414 ov578.2.1), (by (try rw [c585]); rw [← g85]; simp only [riP, ↓reduceIte]; exact om_c9eafa42 p412 p415 ov578.2.2), trivial⟩)), trivial⟩
              · skip
                exfalso; exact om_790212d5 hx3.2 hx3.1 g91 g92 g87 g93 h558
            · skip
              obtain ⟨v600, c601⟩ : ∃ v, I386 a0 9 = v := ⟨_, rfl⟩
              have b602 := iv15_9 hS393.1 ta0 c601
              rw [c601] at p419
              obtain ⟨v603, c604⟩ : ∃ v, I386 a0 13 = v := ⟨_, rfl⟩
              rw [c604] at p420
              obtain ⟨v605, c606⟩ : ∃ v, I386 a0 14 = v := ⟨_, rfl⟩
              rw [c606] at p421
              refine tr_istore dX12_readRising_37 (by decide) (by decide) ?_
              refine tr_iload dX12_readRising_39 hl60 ?_
              refine tr_iload_n dX12_readRising_41 hl59 ?_
              refine q_icmp_ne 50 dX12_readRising_42 (by decide) (fun h607 => ?_) (fun h607 => ?_)
              · skip
                refine tr_aload_n dX12_readRising_50 hl56 ?_
                refine q_callVv hE (M' := mX12_goesOn) (as := []) dX12_readRising_51 lk12_142 inX12_goesOn seX12_goesOn myX12_goesOn (by decide) ⟨by decide, by decide⟩ rfl (kR15 hS393.1 ta0) (Nat.le_of_ble_eq_true rfl) rfl rfl (by decide) (by decide) (k_X12_goesOn hS393.1 ta0) ?_
                rintro cn' K' N' I608 R609 L610 ⟨rfl, rfl, rfl, rfl, g611, p613, p614, p615, w616, -⟩
                have hS617 := hS393.tr g611 (by decide +kernel) (by decide +kernel)
                have c618 : I608 a0 13 = v603 := (g611.cell ta0 (by decide +kernel)).trans c604
                have c619 : I608 a0 14 = v605 := (g611.cell ta0 (by decide +kernel)).trans c606
                obtain ⟨v620, c621⟩ : ∃ v, I608 a0 9 = v := ⟨_, rfl⟩
                have b622 := iv15_9 hS617.1 ta0 c621
                rw [c601] at p613
                rw [c621] at p613
                rw [c601] at p614
                rw [c621] at p614
                obtain ⟨v623, c624⟩ : ∃ v, I608 a0 8 = v := ⟨_, rfl⟩
                have b625 := iv15_8 hS617.1 ta0 c624
                rw [c624] at p615
                rw [c397] at p615
                rw [c618] at p615
                rw [c604] at p615
                have hO626 : FrO 61 a1 T I0 I608 := hO398.st g611 (by decide +kernel)
                have ov627 := w616.over (by rw [c601]; exact om_394b70a2 p419)
                obtain ⟨v628, c629⟩ : ∃ v, I608 a0 9 = v := ⟨_, rfl⟩
                have b630 := iv15_9 hS617.1 ta0 c629
                obtain ⟨v631, c632⟩ : ∃ v, I608 a0 13 = v := ⟨_, rfl⟩
                obtain ⟨v633, c634⟩ : ∃ v, I608 a0 14 = v := ⟨_, rfl⟩
                (try rw [c629] at ov627)
                (try rw [c632] at ov627)
                (try rw [c634] at ov627)
                (try rw [c601] at ov627)
                (try rw [c604] at ov627)
                (try rw [c606] at ov627)
                refine tr_aload_n dX12_readRising_54 hl56 ?_
                refine q_getI dX12_readRising_55 fl12_99 (kR15 hS617.1 ta0) c629 ?_
                refine q_iconst dX12_readRising_58 (by decide) ?_
                intro v635 h636
                refine q_icmp_ne 64 dX12_readRising_59 (by decide) (fun h637 => ?_) (fun h637 => ?_)
                · skip
                  exfalso; exact om_1fa3e129 ov627.1 h636 h637
                · skip
                  refine q_iconst dX12_readRising_62 (by decide) ?_
                  intro v638 h639
                  obtain ⟨v640, c641⟩ : ∃ v, I608 a0 10 = v := ⟨_, rfl⟩
                  have b642 := iv15_10 hS617.1 ta0 c641
                  obtain ⟨v643, c644⟩ : ∃ v, I608 a0 11 = v := ⟨_, rfl⟩
                  obtain ⟨y645, c646⟩ : ∃ v, L610 a0 15 = v := ⟨_, rfl⟩
                  obtain ⟨v647, c648⟩ : ∃ v, I608 a0 12 = v := ⟨_, rfl⟩
                  exact tr_iret hZ dX12_readRising_63 rfl (by decide) (by decide) ⟨v638, rfl, rfl, rfl, rfl, rfl, hS617, (by exact om_7d21acc5 h639), (fun j hj => (Eq.trans ((g611.cell ta1 (wm_no (by decide +kernel))).trans (g389.cell ta1 (wm_no (by decide +kernel)))) (rw103 j hj))), hO626, (Or.inr (⟨(by rw [← g84]; simp only [riF, ↓reduceIte]; exact om_33d2b174 hx3.2 hx3.1 p42 g91 g92 g87 g93 h383 h385 p418 p419 h607 p614 p613 b622.2 b622.1), (by (try rw [c629]); first | done | with_reducible assumption | exact om_394b70a2 ov627.1), (by (try rw [c632]); rw [← g84]; simp only [riF, ↓reduceIte]; exact om_84579115 hx3.2 hx3.1 p42 g91 g92 g87 g93 h383 h385 p417 p418 p419 p420 h607 p614 p613 b622.2 b622.1 ov627.2.1), (by (try rw [c634]); rw [← g85]; simp only [riP, ↓reduceIte]; exact om_9489e191 hx3.2 hx3.1 p42 g91 g92 g97 b107.2 b107.1 g87 g93 h383 h385 p418 p419 p421 h607 p614 p613 b622.2 b622.1 ov627.2.2), trivial⟩)), trivial⟩
              · skip
                exfalso; exact om_790212d5 hx3.2 hx3.1 g91 g92 g87 g93 h607
  exact lp104 _ _ v47 v49 v51 I0 L0 (gs) (8) v45 v13 v18 v22 y25 v28 v31 rfl rfl rfl rfl rfl rfl rfl hS0 hL0 hO0 c46 c14 c19 c23 c26 c29 c32 (by first | rfl | (congr 1; omega) | (congr 2 <;> omega)) (by first | rfl | (congr 1; omega) | (congr 2 <;> omega)) (by first | rfl | (congr 1; omega) | (congr 2 <;> omega)) (by exact om_04beea54 h48) (by exact om_ee8a1e2d h52) (by exact om_d99fa9e4 h50) (by exact om_4c96df26 h50) (by exact om_d99fa9e4 h48) (by exact om_91231c9d h48) (by exact om_45513e8b h48) (by exact om_4ee7209a) (by exact om_acd7a85a p16) (by exact om_fc4b6669 p17) (by exact om_acd7a85a p21) (by exact om_acd7a85a p24) (by assumption) (by assumption) (by assumption) ⟨by rw [show v47.toInt.toNat = 0 by exact om_8b46d78f h48]; rfl, fun k hk => by exact om_78089df4 h48 hk⟩ (fun j hj => rfl) (Nat.lt_succ_self _)
set_option maxHeartbeats 4000000 in
theorem fo_X12_readRising_1 {l : Launch} {T : Nat → Nat} {cn : Nat} {K N : Nat → Nat} {I0 : cz_I} {R0 : cz_R} {L0 : cz_L} {d : Int} (hW0 : Wf T cn K N I0 R0 d)  {a0 : Nat} (ta0 : T a0 = 15) {a1 : Nat} (ta1 : T a1 = 61) {x2 : Int32} (hx2 : 0 ≤ x2.toInt ∧ x2.toInt ≤ 32) {x3 : Int32} (hx3 : 8 ≤ x3.toInt ∧ x3.toInt ≤ 8) (pre0 : (I0 a0 9).toInt = 5) : ConE l mX12_readRising [.ref a0, .ref a1, .int x2, .int x3] cn K N I0 R0 L0 (ca_i (fun v cn' K' N' I' R' L' => cn = cn' ∧ K = K' ∧ N = N' ∧ I0 = I' ∧ R0 = R' ∧ L0 = L' ∧ (v.toInt = 0) ∧ True)) := by
  refine ConE.of (by decide +kernel) rfl (Nat.le_of_ble_eq_true rfl) rfl (fun X hX hZ hE => ?_)
  subst hX
  obtain ⟨v11, c12⟩ : ∃ v, I0 a0 9 = v := ⟨_, rfl⟩
  have b13 := iv15_9 hW0 ta0 c12
  have p14 := pre0
  rw [c12] at p14
  obtain ⟨v15, c16⟩ : ∃ v, I0 a0 13 = v := ⟨_, rfl⟩
  refine q_iconst dX12_readRising_0 (by decide) ?_
  intro v17 h18
  refine tr_istore dX12_readRising_1 (by decide) (by decide) ?_
  refine q_iconst dX12_readRising_3 (by decide) ?_
  intro v19 h20
  refine tr_istore dX12_readRising_4 (by decide) (by decide) ?_
  refine q_iconst dX12_readRising_6 (by decide) ?_
  intro v21 h22
  refine tr_istore dX12_readRising_7 (by decide) (by decide) ?_
  refine tr_iload dX12_readRising_9 rfl ?_
  refine q_if_eq 92 dX12_readRising_11 (by decide) (fun h23 => ?_) (fun h23 => ?_)
  · skip
    exfalso; exact om_3624102b h22 h23
  · skip
    refine tr_aload_n dX12_readRising_14 rfl ?_
    refine q_getI dX12_readRising_15 fl12_99 (kR15 hW0 ta0) c12 ?_
    refine q_iconst dX12_readRising_18 (by decide) ?_
    intro v24 h25
    refine q_icmp_eq 92 dX12_readRising_19 (by decide) (fun h26 => ?_) (fun h26 => ?_)
    · skip
      refine tr_iload dX12_readRising_92 rfl ?_
      exact tr_iret hZ dX12_readRising_94 rfl (by decide) (by decide) ⟨v17, rfl, rfl, rfl, rfl, rfl, rfl, rfl, (by first | done | with_reducible assumption | omega), trivial⟩
    · skip
      exfalso; exact om_1fa3e129 p14 h25 h26
def wik_X12_readSlice : List Nat := [902, 968, 969, 970, 971, 972, 973, 974, 3903, 3967]
def wrk_X12_readSlice : List Nat := []
def wlk_X12_readSlice : List Nat := [975]
set_option maxHeartbeats 4000000 in
theorem fk_X12_readSlice {l : Launch} {T : Nat → Nat} {cn : Nat} {K N : Nat → Nat} {I0 : cz_I} {R0 : cz_R} {L0 : cz_L} (hW0 : Wf T cn K N I0 R0 0) (gB : cz_B) (gs : Int) (gQ : Nat → Int) {a0 : Nat} (ta0 : T a0 = 15) (hT : ∀ t, R0 a0 5 = some t → Tx I0 t gB) (hN : ∀ b, R0 a0 4 = some b → NmM I0 R0 L0 b gQ) (pre0 : (I0 a0 9).toInt = (tkM gB gs)) (pre1 : (I0 a0 9).toInt ≤ 4) (pre2 : (I0 a0 10).toInt = (tkS gB gs)) (pre3 : (I0 a0 11).toInt = (tkG gB gs)) (pre4 : (AtW ((tkK gB gs)) ((L0 a0 15).toInt) ((tkW gB gs)))) (pre5 : (AtV ((tkK gB gs)) ((I0 a0 12).toInt) ((tkV gB gs)))) (pre6 : (AtN ((tkK gB gs)) ((I0 a0 8).toInt) ((tkN gB gs)))) (pre7 : (I0 a0 7).toInt = (gB.2)) (pre8 : ∀ b1, R0 a0 4 = some b1 → (I0 b1 0).toInt = (gQ 0)) (pre9 : ∀ b1, R0 a0 4 = some b1 → (I0 b1 1).toInt = (gQ 1)) (pre10 : ∀ b1, R0 a0 4 = some b1 → (I0 b1 2).toInt = (gQ 2)) (pre11 : ∀ b1, R0 a0 4 = some b1 → (I0 b1 3).toInt = (gQ 3)) (pre12 : ∀ b1, R0 a0 4 = some b1 → (I0 b1 4).toInt = (gQ 4)) (pre13 : ∀ b1, R0 a0 4 = some b1 → (I0 b1 5).toInt = (gQ 5)) (pre14 : ∀ b1, R0 a0 4 = some b1 → (I0 b1 6).toInt = (gQ 6)) (pre15 : ∀ b1, R0 a0 4 = some b1 → (I0 b1 9).toInt = (gQ 8)) (pre16 : (Q7M ((gQ 0)) ((gQ 7)))) (pre17 : (tkK gB gs) = 1) (pre18 : (srt gB gs) = 9) (nn4 : ∃ b, R0 a0 4 = some b) : ConE l mX12_readSlice [.ref a0] cn K N I0 R0 L0 (ca_v (fun cn' K' N' I' R' L' => cn = cn' ∧ K = K' ∧ N = N' ∧ R0 = R' ∧ St T cn K N 0 wik_X12_readSlice wrk_X12_readSlice I0 R0 I' R0 ∧ (∀ b, R0 a0 4 = some b → FrM R0 b T I0 I') ∧ (∀ dr, R0 a0 4 = some dr → FrO 14 dr T I0 I') ∧ ((((lnF gB gQ gs) = 0) ∧ (∀ b1, R0 a0 4 = some b1 → (I' b1 0).toInt = (lnQ gB gQ gs 0)) ∧ (∀ b1, R0 a0 4 = some b1 → (I' b1 1).toInt = (lnQ gB gQ gs 1)) ∧ (∀ b1, R0 a0 4 = some b1 → (I' b1 2).toInt = (lnQ gB gQ gs 2)) ∧ (∀ b1, R0 a0 4 = some b1 → (I' b1 3).toInt = (lnQ gB gQ gs 3)) ∧ (∀ b1, R0 a0 4 = some b1 → (I' b1 4).toInt = (lnQ gB gQ gs 4)) ∧ (∀ b1, R0 a0 4 = some b1 → (I' b1 5).toInt = (lnQ gB gQ gs 5)) ∧ (∀ b1, R0 a0 4 = some b1 → (I' b1 6).toInt = (lnQ gB gQ gs 6)) ∧ (∀ b1, R0 a0 4 = some b1 → (I' b1 9).toInt = (lnQ gB gQ gs 8)) ∧ ((I' a0 13).toInt = (I0 a0 13).toInt) ∧ ((I' a0 9).toInt = (tkM gB (lnS gB gQ gs))) ∧ ((I' a0 9).toInt ≤ 4) ∧ ((I' a0 10).toInt = (tkS gB (lnS gB gQ gs))) ∧ ((I' a0 11).toInt = (tkG gB (lnS gB gQ gs))) ∧ ((AtW ((tkK gB (lnS gB gQ gs))) ((L' a0 15).toInt) ((tkW gB (lnS gB gQ gs))))) ∧ ((AtV ((tkK gB (lnS gB gQ gs))) ((I' a0 12).toInt) ((tkV gB (lnS gB gQ gs))))) ∧ ((AtN ((tkK gB (lnS gB gQ gs))) ((I' a0 8).toInt) ((tkN gB (lnS gB gQ gs))))) ∧ LgS T wlk_X12_readSlice L0 L' ∧ (∀ b, R0 a0 4 = some b → NmM I' R0 L' b (lnQ gB gQ gs)) ∧ (∀ E b, R0 a0 4 = some b → AlM I0 R0 b gQ E → AlM I' R0 b (lnQ gB gQ gs) (lnE gB gQ gs E)) ∧ True) ∨ (((lnF gB gQ gs) ≠ 0) ∧ ((I' a0 9).toInt = 5) ∧ ((I' a0 13).toInt = (lnF gB gQ gs)) ∧ ((I' a0 14).toInt = (lnP gB gQ gs)) ∧ True)) ∧ True)) := by
  refine ConE.of (by decide +kernel) rfl (Nat.le_of_ble_eq_true rfl) rfl (fun X hX hZ hE => ?_)
  subst hX
  have hS0 : St T cn K N 0 wik_X12_readSlice wrk_X12_readSlice I0 R0 I0 R0 := St.rf0 hW0
  have hL0 : LgS T wlk_X12_readSlice L0 L0 := LgS.rf0
  obtain ⟨a1, d2⟩ := nn4
  have ta1 : T a1 = 14 := hW0.rsN ta0 rfl d2
  obtain ⟨v3, c4⟩ : ∃ v, I0 a0 9 = v := ⟨_, rfl⟩
  have b5 := iv15_9 hS0.1 ta0 c4
  have p6 := pre0
  rw [c4] at p6
  have p7 := pre1
  rw [c4] at p7
  obtain ⟨v8, c9⟩ : ∃ v, I0 a0 10 = v := ⟨_, rfl⟩
  have b10 := iv15_10 hS0.1 ta0 c9
  have p11 := pre2
  rw [c9] at p11
  obtain ⟨v12, c13⟩ : ∃ v, I0 a0 11 = v := ⟨_, rfl⟩
  have p14 := pre3
  rw [c13] at p14
  obtain ⟨y15, c16⟩ : ∃ v, L0 a0 15 = v := ⟨_, rfl⟩
  have p17 := pre4
  rw [c16] at p17
  obtain ⟨v18, c19⟩ : ∃ v, I0 a0 12 = v := ⟨_, rfl⟩
  have p20 := pre5
  rw [c19] at p20
  obtain ⟨v21, c22⟩ : ∃ v, I0 a0 8 = v := ⟨_, rfl⟩
  have b23 := iv15_8 hS0.1 ta0 c22
  have p24 := pre6
  rw [c22] at p24
  obtain ⟨v25, c26⟩ : ∃ v, I0 a0 7 = v := ⟨_, rfl⟩
  have b27 := iv15_7 hW0 ta0 c26
  have p28 := pre7
  rw [c26] at p28
  obtain ⟨v29, c30⟩ : ∃ v, I0 a1 0 = v := ⟨_, rfl⟩
  have b31 := iv14_0 hW0 ta1 c30
  have p32 := pre8 _ d2
  rw [c30] at p32
  obtain ⟨v33, c34⟩ : ∃ v, I0 a1 1 = v := ⟨_, rfl⟩
  have b35 := iv14_1 hW0 ta1 c34
  have p36 := pre9 _ d2
  rw [c34] at p36
  obtain ⟨v37, c38⟩ : ∃ v, I0 a1 2 = v := ⟨_, rfl⟩
  have b39 := iv14_2 hW0 ta1 c38
  have p40 := pre10 _ d2
  rw [c38] at p40
  obtain ⟨v41, c42⟩ : ∃ v, I0 a1 3 = v := ⟨_, rfl⟩
  have b43 := iv14_3 hW0 ta1 c42
  have p44 := pre11 _ d2
  rw [c42] at p44
  obtain ⟨v45, c46⟩ : ∃ v, I0 a1 4 = v := ⟨_, rfl⟩
  have b47 := iv14_4 hW0 ta1 c46
  have p48 := pre12 _ d2
  rw [c46] at p48
  obtain ⟨v49, c50⟩ : ∃ v, I0 a1 5 = v := ⟨_, rfl⟩
  have b51 := iv14_5 hW0 ta1 c50
  have p52 := pre13 _ d2
  rw [c50] at p52
  obtain ⟨v53, c54⟩ : ∃ v, I0 a1 6 = v := ⟨_, rfl⟩
  have b55 := iv14_6 hS0.1 ta1 c54
  have p56 := pre14 _ d2
  rw [c54] at p56
  obtain ⟨v57, c58⟩ : ∃ v, I0 a1 9 = v := ⟨_, rfl⟩
  have b59 := iv14_9 hW0 ta1 c58
  have p60 := pre15 _ d2
  rw [c58] at p60
  have p61 := pre16
  have p62 := pre17
  have p63 := pre18
  obtain ⟨v64, c65⟩ : ∃ v, I0 a0 13 = v := ⟨_, rfl⟩
  have hM0 := hN _ d2
  have hO0 : FrO 14 a1 T I0 I0 := FrO.rf
  obtain ⟨a66, d67, ta66⟩ := rf14_17 hW0 ta1
  obtain ⟨a68, d69, ta68⟩ := rf14_18 hW0 ta1
  have hF := lnF_ch gB gQ gs
  have hP := lnP_ch gB gQ gs
  replace hF := hF.neg (by exact om_158a9ba2 pre18)
  replace hP := hP.neg (by exact om_158a9ba2 pre18)
  replace hF := hF.neg (by exact om_fac1cf92 pre18)
  replace hP := hP.neg (by exact om_fac1cf92 pre18)
  refine tr_aload_n dX12_readSlice_0 rfl ?_
  refine tr_aload_n dX12_readSlice_1 rfl ?_
  refine tr_getR dX12_readSlice_2 fl12_188 (kR15 hS0.1 ta0) d2 ?_
  refine q_getI dX12_readSlice_5 fl12_370 (kR14 hS0.1 ta1) c54 ?_
  refine q_iconst dX12_readSlice_8 (by decide) ?_
  intro v70 h71
  refine q_callVv hE (M' := mX12_begins) (as := [_, _]) dX12_readSlice_9 lk12_268 inX12_begins seX12_begins myX12_begins (by decide) ⟨by decide, by decide⟩ rfl (kR15 hS0.1 ta0) (Nat.le_of_ble_eq_true rfl) rfl rfl (by decide) (by decide) (fk_X12_begins hS0.1 (gB) (gs) (gQ) ta0 (TxA.kp hT hS0 ta0 rfl rfl rfl (by decide +kernel) (by decide +kernel)) (by (try rw [c4]); first | done | with_reducible assumption | omega) (by (try rw [c4]); first | done | with_reducible assumption | omega) (by (try rw [c9]); first | done | with_reducible assumption | omega) (by (try rw [c13]); first | done | with_reducible assumption | omega) (by (try rw [c16]); first | done | assumption) (by (try rw [c19]); first | done | assumption) (by (try rw [c22]); first | done | assumption) (by (try rw [c26]); first | done | with_reducible assumption | omega) (fun q0 z0 => by obtain rfl := Option.some.inj ((d2).symm.trans z0); (try rw [c30]); first | done | with_reducible assumption | omega) (by first | done | with_reducible assumption | omega) ⟨_, d2⟩) ?_
  rintro cn' K' N' I72 R73 L74 ⟨rfl, rfl, rfl, rfl, g75, dj78, -⟩
  have hM79 : NmM I72 R0 L0 a1 gQ := NmM.kpS hM0 g75 hS0.1 ta1 (by decide +kernel) (by decide +kernel)
  have hS80 := hS0.tr g75 (by decide +kernel) (by decide +kernel)
  have c81 : I72 a1 6 = v53 := (g75.cell ta1 (by decide +kernel)).trans c54
  have hO82 : FrO 14 a1 T I0 I72 := hO0.st g75 (by decide +kernel)
  rcases dj78 with ⟨p83, p84, p85, p86, p87, p88, p89, p90, p91, p92, gl93, -⟩ | ⟨p94, p95, p96, p97, -⟩ | ⟨p98, p99, p100, p101, p102, -⟩
  · skip
    have hL103 := hL0.tr gl93 (by decide +kernel)
    have hM104 : NmM I72 R0 L74 a1 gQ := NmM.kpL hM79 gl93 hS80.1 ta1 (by decide +kernel)
    obtain ⟨v105, c106⟩ : ∃ v, I72 a0 13 = v := ⟨_, rfl⟩
    rw [c106] at p85
    rw [c65] at p85
    obtain ⟨v107, c108⟩ : ∃ v, I72 a0 9 = v := ⟨_, rfl⟩
    have b109 := iv15_9 hS80.1 ta0 c108
    rw [c108] at p86
    rw [c108] at p87
    obtain ⟨v110, c111⟩ : ∃ v, I72 a0 10 = v := ⟨_, rfl⟩
    have b112 := iv15_10 hS80.1 ta0 c111
    rw [c111] at p88
    obtain ⟨v113, c114⟩ : ∃ v, I72 a0 11 = v := ⟨_, rfl⟩
    rw [c114] at p89
    obtain ⟨y115, c116⟩ : ∃ v, L74 a0 15 = v := ⟨_, rfl⟩
    rw [c116] at p90
    obtain ⟨v117, c118⟩ : ∃ v, I72 a0 12 = v := ⟨_, rfl⟩
    rw [c118] at p91
    obtain ⟨v119, c120⟩ : ∃ v, I72 a0 8 = v := ⟨_, rfl⟩
    have b121 := iv15_8 hS80.1 ta0 c120
    rw [c120] at p92
    have p122 := p61
    unfold Q7M at p122
    replace hF := hF.neg (by exact om_6d4d7dd0 pre18 b31.2 b31.1 p32 b55.2 b55.1 p56 h71 p83 p84 p122)
    replace hP := hP.neg (by exact om_6d4d7dd0 pre18 b31.2 b31.1 p32 b55.2 b55.1 p56 h71 p83 p84 p122)
    replace hF := hF.neg (by exact om_5b4205da pre18 p84 p122)
    replace hP := hP.neg (by exact om_5b4205da pre18 p84 p122)
    clear p122
    obtain ⟨w123, w124, w125, w126, w127, w128, w129, w130, w131, w132, w133, w134⟩ := lnl_9 (B := gB) (Q := gQ) (s := gs) (by exact om_eb509709 p63)
    replace hF := hF.to w123 (show ChE (riF gB gQ 8 0 (tkN gB gs)) (riF gB gQ 8 0 (tkN gB gs)) from rfl)
    replace hP := hP.to w124 (show ChE (riP gB gQ 8 0 (tkN gB gs)) (riP gB gQ 8 0 (tkN gB gs)) from rfl)
    refine tr_aload_n dX12_readSlice_12 rfl ?_
    refine tr_aload_n dX12_readSlice_13 rfl ?_
    refine tr_getR dX12_readSlice_14 fl12_188 (kR15 hS80.1 ta0) d2 ?_
    refine tr_getR dX12_readSlice_17 fl12_373 (kR14 hS80.1 ta1) d69 ?_
    refine q_bipush dX12_readSlice_20 (by decide +kernel) ?_
    intro v135 h136
    refine tr_aload_n dX12_readSlice_22 rfl ?_
    refine tr_getR dX12_readSlice_23 fl12_188 (kR15 hS80.1 ta0) d2 ?_
    refine q_getI dX12_readSlice_26 fl12_370 (kR14 hS80.1 ta1) c81 ?_
    refine q_imulE (c := 8) dX12_readSlice_29 (by exact om_ab0fb6d5 h136) (by exact om_fc19c4c9 b55.2 b55.1 p56 w132) ?_
    intro v137 h138
    refine q_bipush dX12_readSlice_30 (by decide +kernel) ?_
    intro v139 h140
    refine q_callVi hE (M' := mX12_readRising) (as := [_, _, _]) dX12_readSlice_32 lk12_308 inX12_readRising seX12_readRising myX12_readRising (by decide) ⟨by decide, by decide⟩ rfl (kR15 hS80.1 ta0) (Nat.le_of_ble_eq_true rfl) rfl rfl (by decide) (by decide) (fk_X12_readRising_1 hS80.1 (gB) ((tkN gB gs)) (gQ) ta0 ta68 (by exact om_bb9fe762 b55.2 b55.1 p56 w132 h138) (by exact om_abb56aaf h140) (TxA.kp hT hS80 ta0 rfl rfl rfl (by decide +kernel) (by decide +kernel)) (by (try rw [c108]); first | done | with_reducible assumption | omega) (by (try rw [c108]); first | done | with_reducible assumption | omega) (by (try rw [c111]); first | done | with_reducible assumption | omega) (by (try rw [c114]); first | done | with_reducible assumption | omega) (by (try rw [c116]); first | done | assumption) (by (try rw [c118]); first | done | assumption) (by (try rw [c120]); first | done | assumption) (by (try rw [((hS80.cell ta0 (by decide +kernel)).trans c26)]); first | done | with_reducible assumption | omega) (fun q0 z0 => by obtain rfl := Option.some.inj ((d2).symm.trans z0); (try rw [((hS80.cell ta1 (by decide +kernel)).trans c30)]); first | done | with_reducible assumption | omega) (by first | done | with_reducible assumption | exact om_6c62a19e b31.2 b31.1 p32 p84 w126) (by first | done | with_reducible assumption | exact om_5807c982 b31.2 b31.1 p32 b55.2 b55.1 p56 h71 p83 p84 w126 w132 h138) ⟨_, d2⟩) ?_
    rintro v146 cn' K' N' I141 R142 L143 ⟨rfl, rfl, rfl, rfl, g144, h147, rp148, rp149, dj150, -⟩
    have hM151 : NmM I141 R0 L74 a1 gQ := NmM.kpS hM104 g144 hS80.1 ta1 (by decide +kernel) (by decide +kernel)
    have hS152 := hS80.tr g144 (by decide +kernel) (by decide +kernel)
    have c153 : I141 a1 6 = v53 := (g144.cell ta1 (by decide +kernel)).trans c81
    have hO154 : FrO 14 a1 T I0 I141 := hO82.st g144 (by decide +kernel)
    rcases dj150 with ⟨p155, p156, p157, p158, p159, p160, p161, p162, p163, p164, gl165, rp166, -⟩ | ⟨p167, p168, p169, p170, -⟩
    · skip
      have hL171 := hL103.tr gl165 (by decide +kernel)
      have hM172 : NmM I141 R0 L143 a1 gQ := NmM.kpL hM151 gl165 hS152.1 ta1 (by decide +kernel)
      obtain ⟨v173, c174⟩ : ∃ v, I141 a0 13 = v := ⟨_, rfl⟩
      rw [c174] at p156
      rw [c106] at p156
      obtain ⟨v175, c176⟩ : ∃ v, I141 a0 9 = v := ⟨_, rfl⟩
      have b177 := iv15_9 hS152.1 ta0 c176
      rw [c176] at p157
      rw [c176] at p158
      obtain ⟨v178, c179⟩ : ∃ v, I141 a0 10 = v := ⟨_, rfl⟩
      have b180 := iv15_10 hS152.1 ta0 c179
      rw [c179] at p159
      obtain ⟨v181, c182⟩ : ∃ v, I141 a0 11 = v := ⟨_, rfl⟩
      rw [c182] at p160
      obtain ⟨y183, c184⟩ : ∃ v, L143 a0 15 = v := ⟨_, rfl⟩
      rw [c184] at p161
      obtain ⟨v185, c186⟩ : ∃ v, I141 a0 12 = v := ⟨_, rfl⟩
      rw [c186] at p162
      obtain ⟨v187, c188⟩ : ∃ v, I141 a0 8 = v := ⟨_, rfl⟩
      have b189 := iv15_8 hS152.1 ta0 c188
      rw [c188] at p163
      refine tr_istore_n dX12_readSlice_35 (by decide) (by decide) ?_
      refine tr_aload_n dX12_readSlice_36 rfl ?_
      refine q_getI dX12_readSlice_37 fl12_99 (kR15 hS152.1 ta0) c176 ?_
      refine q_iconst dX12_readSlice_40 (by decide) ?_
      intro v190 h191
      refine q_icmp_ne 45 dX12_readSlice_41 (by decide) (fun h192 => ?_) (fun h192 => ?_)
      · skip
        refine tr_aload_n dX12_readSlice_45 rfl ?_
        refine tr_getR dX12_readSlice_46 fl12_188 (kR15 hS152.1 ta0) d2 ?_
        refine tr_getR dX12_readSlice_49 fl12_375 (kR14 hS152.1 ta1) d67 ?_
        refine tr_aload_n dX12_readSlice_52 rfl ?_
        refine tr_getR dX12_readSlice_53 fl12_188 (kR15 hS152.1 ta0) d2 ?_
        refine q_getI dX12_readSlice_56 fl12_370 (kR14 hS152.1 ta1) c153 ?_
        refine tr_iload_n dX12_readSlice_59 rfl ?_
        refine q_iast dX12_readSlice_60 (kR60 hS152.1 ta66) (ti_in (nR60 hS152.1 ta66) (by exact om_440fd0c9 b55.2 b55.1 p56 w132) (by exact om_2baa980e b31.2 b31.1 p32 b55.2 b55.1 p56 h71 p83 p84 w126 w132 p158 p157 b177.1 h191 h192)) hS152 ta66 (by show (0 : Int) ≤ v146.toInt ∧ v146.toInt ≤ (8 : Int); exact om_575e5997 h147) rfl (by rfl) ?_
        intro I193 hS194 e196 f195
        have c197 : I193 a1 6 = v53 := (f195 _ _ (fun q => by have z := ta1; rw [q.1, ta66] at z; exact absurd z (by decide))).trans c153
        have c198 : I193 a0 13 = v173 := (f195 _ _ (fun q => by have z := ta0; rw [q.1, ta66] at z; exact absurd z (by decide))).trans c174
        have c199 : I193 a0 9 = v175 := (f195 _ _ (fun q => by have z := ta0; rw [q.1, ta66] at z; exact absurd z (by decide))).trans c176
        have c200 : I193 a0 10 = v178 := (f195 _ _ (fun q => by have z := ta0; rw [q.1, ta66] at z; exact absurd z (by decide))).trans c179
        have c201 : I193 a0 11 = v181 := (f195 _ _ (fun q => by have z := ta0; rw [q.1, ta66] at z; exact absurd z (by decide))).trans c182
        have c202 : I193 a0 12 = v185 := (f195 _ _ (fun q => by have z := ta0; rw [q.1, ta66] at z; exact absurd z (by decide))).trans c186
        have c203 : I193 a0 8 = v187 := (f195 _ _ (fun q => by have z := ta0; rw [q.1, ta66] at z; exact absurd z (by decide))).trans c188
        have hO204 : FrO 14 a1 T I0 I193 := hO154.put f195 ta66 (Or.inl (by decide))
        have hM205 : NmM I193 R0 L143 a1 gQ := NmM.kp1 hM172 f195 ta66 rfl rfl hS152.1 ta1
        refine tr_aload_n dX12_readSlice_61 rfl ?_
        refine tr_getR dX12_readSlice_62 fl12_188 (kR15 hS194.1 ta0) d2 ?_
        refine tr_dup dX12_readSlice_65 rfl ?_
        refine q_getI dX12_readSlice_66 fl12_370 (kR14 hS194.1 ta1) c197 ?_
        refine q_iconst dX12_readSlice_69 (by decide) ?_
        intro v206 h207
        refine q_iaddE dX12_readSlice_70 (by intro j1 j2 j3 j4; exact om_1057f747 b55.2 b55.1 p56 w132 h207) ?_
        intro v208 h209
        refine q_putI dX12_readSlice_71 fl12_370 (kR14 hS194.1 ta1) (Or.inl rfl) hS194 ta1 (by show (0 : Int) ≤ v208.toInt ∧ v208.toInt ≤ (4 : Int); exact om_9906412c b31.2 b31.1 p32 b55.2 b55.1 p56 h71 p83 p84 w126 w132 p158 p157 b177.1 h191 h192 h207 h209) rfl (by decide +kernel) ?_
        intro I210 hS211 e212 f213
        have c214 : I210 a0 13 = v173 := (f213 _ _ (fun q => absurd q.2 (by decide))).trans c198
        have c215 : I210 a0 9 = v175 := (f213 _ _ (fun q => absurd q.2 (by decide))).trans c199
        have c216 : I210 a0 10 = v178 := (f213 _ _ (fun q => absurd q.2 (by decide))).trans c200
        have c217 : I210 a0 11 = v181 := (f213 _ _ (fun q => absurd q.2 (by decide))).trans c201
        have c218 : I210 a0 12 = v185 := (f213 _ _ (fun q => absurd q.2 (by decide))).trans c202
        have c219 : I210 a0 8 = v187 := (f213 _ _ (fun q => absurd q.2 (by decide))).trans c203
        have hO220 : FrO 14 a1 T I0 I210 := hO204.put f213 ta1 (Or.inr rfl)
        have hM221 : NmM I210 R0 L143 a1 gQ := NmM.kp1 hM205 f213 ta1 rfl rfl hS194.1 ta1
        have eF := hF.eq
        have eP := hP.eq
        obtain ⟨v222, c223⟩ : ∃ v, I210 a0 14 = v := ⟨_, rfl⟩
        exact tr_vret hZ dX12_readSlice_74 rfl (by decide) (by decide) ⟨rfl, rfl, rfl, rfl, rfl, hS211, (fun b hb => (Option.some.inj (d2.symm.trans hb)) ▸ (((((FrM.rf (R := R0) (b := a1) (T := T)).st g75 (by decide +kernel)).fro rp149 g144 (by decide) (by decide) d69 (by decide +kernel)).pu f195 (by decide) (by decide) d67).put f213 ta1 (by decide))), (fun dr hd => (Option.some.inj (d2.symm.trans hd)) ▸ hO220), (Or.inl ⟨(by (try rw [w125]); first | done | with_reducible assumption | exact om_d12bbb76 p155 eF), (fun q0 z0 => by obtain rfl := Option.some.inj ((d2).symm.trans z0); (try rw [w125]); (try rw [((hS211.cell ta1 (by decide +kernel)).trans c30)]); first | done | with_reducible assumption | exact om_2757374c p32 w126), (fun q0 z0 => by obtain rfl := Option.some.inj ((d2).symm.trans z0); (try rw [w125]); (try rw [((hS211.cell ta1 (by decide +kernel)).trans c34)]); first | done | with_reducible assumption | exact om_2757374c p36 w127), (fun q0 z0 => by obtain rfl := Option.some.inj ((d2).symm.trans z0); (try rw [w125]); (try rw [((hS211.cell ta1 (by decide +kernel)).trans c38)]); first | done | with_reducible assumption | exact om_2757374c p40 w128), (fun q0 z0 => by obtain rfl := Option.some.inj ((d2).symm.trans z0); (try rw [w125]); (try rw [((hS211.cell ta1 (by decide +kernel)).trans c42)]); first | done | with_reducible assumption | exact om_2757374c p44 w129), (fun q0 z0 => by obtain rfl := Option.some.inj ((d2).symm.trans z0); (try rw [w125]); (try rw [((hS211.cell ta1 (by decide +kernel)).trans c46)]); first | done | with_reducible assumption | exact om_2757374c p48 w130), (fun q0 z0 => by obtain rfl := Option.some.inj ((d2).symm.trans z0); (try rw [w125]); (try rw [((hS211.cell ta1 (by decide +kernel)).trans c50)]); first | done | with_reducible assumption | exact om_2757374c p52 w131), (fun q0 z0 => by obtain rfl := Option.some.inj ((d2).symm.trans z0); (try rw [w125]); (try rw [e212]); first | done | with_reducible assumption | exact om_7149e5be p56 w132 h207 h209), (fun q0 z0 => by obtain rfl := Option.some.inj ((d2).symm.trans z0); (try rw [w125]); (try rw [((hS211.cell ta1 (by decide +kernel)).trans c58)]); first | done | with_reducible assumption | exact om_2757374c p60 w134), (by (try rw [w125]); (try rw [c214]); (try rw [c65]); first | done | with_reducible assumption | exact om_9fa72578 p85 p156), (by (try rw [w125]); (try rw [c215]); first | done | with_reducible assumption | omega), (by (try rw [w125]); (try rw [c215]); first | done | with_reducible assumption | omega), (by (try rw [w125]); (try rw [c216]); first | done | with_reducible assumption | omega), (by (try rw [w125]); (try rw [c217]); first | done | with_reducible assumption | omega), (by (try rw [w125]); (try rw [c184]); first | done | assumption), (by (try rw [w125]); (try rw [c218]); first | done | assumption), (by (try rw [w125]); (try rw [c219]); first | done | assumption), hL171, (fun b hb => (Option.some.inj (d2.symm.trans hb)) ▸ NmM.ln (NmM.bd (k := srt gB gs) hM221 (by exact om_dfad54ab pre18) (by exact om_33c1ecb5 pre18)) rfl), (fun E b hb hE => by obtain rfl := Option.some.inj (d2.symm.trans hb); exact AlM.sl hE hW0 ta1 (by exact om_eb509709 p63) (by exact om_96514775 b55.2 b55.1 p56 w132 h207 h209) (by exact om_519ce176 b31.2 b31.1 p32 b55.2 b55.1 p56 h71 p83 p84 w126 w132 p158 p157 b177.1 h191 h192 h207 h209) (hS211.cell ta1 (by decide +kernel)) (RoF.st (ex := xr 60 61) hS211 (by decide +kernel)) (fun a ha => by obtain rfl := Option.some.inj (d67.symm.trans ha); have zi : v53.toNatClampNeg = (gQ 6).toNat := congrArg Int.toNat (by exact om_acd7a85a p56); have ze := (Eq.trans (f213 _ _ (fun q => by have z := ta66; rw [q.1, ta1] at z; exact absurd z (by decide))) e196); rw [zi] at ze; exact ⟨by rw [ze]; exact om_acd7a85a p164, fun j hj => ((f213 _ _ (fun q => by have z := ta66; rw [q.1, ta1] at z; exact absurd z (by decide))).trans ((f195 _ _ (fun q => hj (q.2.trans zi))).trans ((g144.cell ta66 (wm_no (by decide +kernel))).trans (g75.cell ta66 (wm_no (by decide +kernel))))))⟩) (fun a ha => by obtain rfl := Option.some.inj (d69.symm.trans ha); exact ⟨fun k hk => by have z := rp166 k hk; rw [show v137.toInt.toNat + k = 8 * (gQ 6).toNat + k by exact om_6e2cda19 b55.2 b55.1 p56 w132 h138 h207 h209] at z; exact (congrArg Int32.toInt ((f213 _ _ (fun q => by have z := ta68; rw [q.1, ta1] at z; exact absurd z (by decide))).trans (f195 _ _ (fun q => by have z := ta68; rw [q.1, ta66] at z; exact absurd z (by decide))))).trans z, fun j hj => (Eq.trans ((f213 _ _ (fun q => by have z := ta68; rw [q.1, ta1] at z; exact absurd z (by decide))).trans (f195 _ _ (fun q => by have z := ta68; rw [q.1, ta66] at z; exact absurd z (by decide)))) (Eq.trans (rp148 j (Or.inl (by exact om_30ed59dc b55.2 b55.1 p56 w132 h138 h207 h209 hj))) (g75.cell ta68 (wm_no (by decide +kernel)))))⟩)), trivial⟩), trivial⟩
      · skip
        exfalso; exact om_99cda0b7 p158 p157 b177.1 h191 h192
    · skip
      obtain ⟨v224, c225⟩ : ∃ v, I141 a0 9 = v := ⟨_, rfl⟩
      have b226 := iv15_9 hS152.1 ta0 c225
      rw [c225] at p168
      obtain ⟨v227, c228⟩ : ∃ v, I141 a0 13 = v := ⟨_, rfl⟩
      rw [c228] at p169
      obtain ⟨v229, c230⟩ : ∃ v, I141 a0 14 = v := ⟨_, rfl⟩
      rw [c230] at p170
      refine tr_istore_n dX12_readSlice_35 (by decide) (by decide) ?_
      refine tr_aload_n dX12_readSlice_36 rfl ?_
      refine q_getI dX12_readSlice_37 fl12_99 (kR15 hS152.1 ta0) c225 ?_
      refine q_iconst dX12_readSlice_40 (by decide) ?_
      intro v231 h232
      refine q_icmp_ne 45 dX12_readSlice_41 (by decide) (fun h233 => ?_) (fun h233 => ?_)
      · skip
        exfalso; exact om_1fa3e129 p168 h232 h233
      · skip
        have eF := hF.eq
        have eP := hP.eq
        obtain ⟨v234, c235⟩ : ∃ v, I141 a0 10 = v := ⟨_, rfl⟩
        have b236 := iv15_10 hS152.1 ta0 c235
        obtain ⟨v237, c238⟩ : ∃ v, I141 a0 11 = v := ⟨_, rfl⟩
        obtain ⟨y239, c240⟩ : ∃ v, L143 a0 15 = v := ⟨_, rfl⟩
        obtain ⟨v241, c242⟩ : ∃ v, I141 a0 12 = v := ⟨_, rfl⟩
        obtain ⟨v243, c244⟩ : ∃ v, I141 a0 8 = v := ⟨_, rfl⟩
        have b245 := iv15_8 hS152.1 ta0 c244
        exact tr_vret hZ dX12_readSlice_44 rfl (by decide) (by decide) ⟨rfl, rfl, rfl, rfl, rfl, hS152, (fun b hb => (Option.some.inj (d2.symm.trans hb)) ▸ (((FrM.rf (R := R0) (b := a1) (T := T)).st g75 (by decide +kernel)).fro rp149 g144 (by decide) (by decide) d69 (by decide +kernel))), (fun dr hd => (Option.some.inj (d2.symm.trans hd)) ▸ hO154), (Or.inr (⟨(by (try rw [w125]); first | done | with_reducible assumption | exact om_53549b26 p167 p169 eF), (by (try rw [w125]); (try rw [c225]); first | done | with_reducible assumption | omega), (by (try rw [w125]); (try rw [c228]); first | done | with_reducible assumption | exact om_2757374c p169 eF), (by (try rw [w125]); (try rw [c230]); first | done | with_reducible assumption | exact om_2757374c p170 eP), trivial⟩)), trivial⟩
  · skip
    obtain ⟨v246, c247⟩ : ∃ v, I72 a0 9 = v := ⟨_, rfl⟩
    have b248 := iv15_9 hS80.1 ta0 c247
    rw [c247] at p95
    obtain ⟨v249, c250⟩ : ∃ v, I72 a0 13 = v := ⟨_, rfl⟩
    rw [c250] at p96
    obtain ⟨v251, c252⟩ : ∃ v, I72 a0 14 = v := ⟨_, rfl⟩
    rw [c252] at p97
    have p253 := p61
    unfold Q7M at p253
    replace hF := hF.pos (by exact om_10e77491 pre18 p56 h71 p94)
    replace hP := hP.pos (by exact om_10e77491 pre18 p56 h71 p94)
    clear p253
    refine tr_aload_n dX12_readSlice_12 rfl ?_
    refine tr_aload_n dX12_readSlice_13 rfl ?_
    refine tr_getR dX12_readSlice_14 fl12_188 (kR15 hS80.1 ta0) d2 ?_
    refine tr_getR dX12_readSlice_17 fl12_373 (kR14 hS80.1 ta1) d69 ?_
    refine q_bipush dX12_readSlice_20 (by decide +kernel) ?_
    intro v254 h255
    refine tr_aload_n dX12_readSlice_22 rfl ?_
    refine tr_getR dX12_readSlice_23 fl12_188 (kR15 hS80.1 ta0) d2 ?_
    refine q_getI dX12_readSlice_26 fl12_370 (kR14 hS80.1 ta1) c81 ?_
    refine q_imulE (c := 8) dX12_readSlice_29 (by exact om_ab0fb6d5 h255) (by exact om_c9a68b8e p56 h71 p94) ?_
    intro v256 h257
    refine q_bipush dX12_readSlice_30 (by decide +kernel) ?_
    intro v258 h259
    refine q_callVi hE (M' := mX12_readRising) (as := [_, _, _]) dX12_readSlice_32 lk12_308 inX12_readRising seX12_readRising myX12_readRising (by decide) ⟨by decide, by decide⟩ rfl (kR15 hS80.1 ta0) (Nat.le_of_ble_eq_true rfl) rfl rfl (by decide) (by decide) (fo_X12_readRising_1 hS80.1  ta0 ta68 (by exact om_8091a5de p56 h71 p94 h257) (by exact om_abb56aaf h259) (by (try rw [c247]); first | done | with_reducible assumption | omega)) ?_
    rintro v265 cn' K' N' I260 R261 L262 ⟨rfl, rfl, rfl, rfl, rfl, rfl, p266, -⟩
    refine tr_istore_n dX12_readSlice_35 (by decide) (by decide) ?_
    refine tr_aload_n dX12_readSlice_36 rfl ?_
    refine q_getI dX12_readSlice_37 fl12_99 (kR15 hS80.1 ta0) c247 ?_
    refine q_iconst dX12_readSlice_40 (by decide) ?_
    intro v267 h268
    refine q_icmp_ne 45 dX12_readSlice_41 (by decide) (fun h269 => ?_) (fun h269 => ?_)
    · skip
      exfalso; exact om_1fa3e129 p95 h268 h269
    · skip
      have eF := hF.eq
      have eP := hP.eq
      obtain ⟨v270, c271⟩ : ∃ v, I72 a0 10 = v := ⟨_, rfl⟩
      have b272 := iv15_10 hS80.1 ta0 c271
      obtain ⟨v273, c274⟩ : ∃ v, I72 a0 11 = v := ⟨_, rfl⟩
      obtain ⟨y275, c276⟩ : ∃ v, L74 a0 15 = v := ⟨_, rfl⟩
      obtain ⟨v277, c278⟩ : ∃ v, I72 a0 12 = v := ⟨_, rfl⟩
      obtain ⟨v279, c280⟩ : ∃ v, I72 a0 8 = v := ⟨_, rfl⟩
      have b281 := iv15_8 hS80.1 ta0 c280
      exact tr_vret hZ dX12_readSlice_44 rfl (by decide) (by decide) ⟨rfl, rfl, rfl, rfl, rfl, hS80, (fun b hb => (Option.some.inj (d2.symm.trans hb)) ▸ ((FrM.rf (R := R0) (b := a1) (T := T)).st g75 (by decide +kernel))), (fun dr hd => (Option.some.inj (d2.symm.trans hd)) ▸ hO82), (Or.inr (⟨(by first | done | with_reducible assumption | exact om_64c62efe eF), (by (try rw [c247]); first | done | with_reducible assumption | omega), (by (try rw [c250]); first | done | with_reducible assumption | exact om_20a75ec4 p96 eF), (by (try rw [c252]); first | done | with_reducible assumption | exact om_86fa3162 p11 p97 eP), trivial⟩)), trivial⟩
  · skip
    obtain ⟨v282, c283⟩ : ∃ v, I72 a0 9 = v := ⟨_, rfl⟩
    have b284 := iv15_9 hS80.1 ta0 c283
    rw [c283] at p100
    obtain ⟨v285, c286⟩ : ∃ v, I72 a0 13 = v := ⟨_, rfl⟩
    rw [c286] at p101
    obtain ⟨v287, c288⟩ : ∃ v, I72 a0 14 = v := ⟨_, rfl⟩
    rw [c288] at p102
    have p289 := p61
    unfold Q7M at p289
    replace hF := hF.neg (by exact om_2e1142e6 pre18 b55.2 b55.1 p56 h71 p98 p99 p289)
    replace hP := hP.neg (by exact om_2e1142e6 pre18 b55.2 b55.1 p56 h71 p98 p99 p289)
    replace hF := hF.pos (by exact om_c3956492 pre18 p99 p289)
    replace hP := hP.pos (by exact om_c3956492 pre18 p99 p289)
    clear p289
    refine tr_aload_n dX12_readSlice_12 rfl ?_
    refine tr_aload_n dX12_readSlice_13 rfl ?_
    refine tr_getR dX12_readSlice_14 fl12_188 (kR15 hS80.1 ta0) d2 ?_
    refine tr_getR dX12_readSlice_17 fl12_373 (kR14 hS80.1 ta1) d69 ?_
    refine q_bipush dX12_readSlice_20 (by decide +kernel) ?_
    intro v290 h291
    refine tr_aload_n dX12_readSlice_22 rfl ?_
    refine tr_getR dX12_readSlice_23 fl12_188 (kR15 hS80.1 ta0) d2 ?_
    refine q_getI dX12_readSlice_26 fl12_370 (kR14 hS80.1 ta1) c81 ?_
    refine q_imulE (c := 8) dX12_readSlice_29 (by exact om_ab0fb6d5 h291) (by exact om_4ae38929 b55.2 b55.1 p56) ?_
    intro v292 h293
    refine q_bipush dX12_readSlice_30 (by decide +kernel) ?_
    intro v294 h295
    refine q_callVi hE (M' := mX12_readRising) (as := [_, _, _]) dX12_readSlice_32 lk12_308 inX12_readRising seX12_readRising myX12_readRising (by decide) ⟨by decide, by decide⟩ rfl (kR15 hS80.1 ta0) (Nat.le_of_ble_eq_true rfl) rfl rfl (by decide) (by decide) (fo_X12_readRising_1 hS80.1  ta0 ta68 (by exact om_79655e87 b55.2 b55.1 p56 h293) (by exact om_abb56aaf h295) (by (try rw [c283]); first | done | with_reducible assumption | omega)) ?_
    rintro v301 cn' K' N' I296 R297 L298 ⟨rfl, rfl, rfl, rfl, rfl, rfl, p302, -⟩
    refine tr_istore_n dX12_readSlice_35 (by decide) (by decide) ?_
    refine tr_aload_n dX12_readSlice_36 rfl ?_
    refine q_getI dX12_readSlice_37 fl12_99 (kR15 hS80.1 ta0) c283 ?_
    refine q_iconst dX12_readSlice_40 (by decide) ?_
    intro v303 h304
    refine q_icmp_ne 45 dX12_readSlice_41 (by decide) (fun h305 => ?_) (fun h305 => ?_)
    · skip
      exfalso; exact om_1fa3e129 p100 h304 h305
    · skip
      have eF := hF.eq
      have eP := hP.eq
      obtain ⟨v306, c307⟩ : ∃ v, I72 a0 10 = v := ⟨_, rfl⟩
      have b308 := iv15_10 hS80.1 ta0 c307
      obtain ⟨v309, c310⟩ : ∃ v, I72 a0 11 = v := ⟨_, rfl⟩
      obtain ⟨y311, c312⟩ : ∃ v, L74 a0 15 = v := ⟨_, rfl⟩
      obtain ⟨v313, c314⟩ : ∃ v, I72 a0 12 = v := ⟨_, rfl⟩
      obtain ⟨v315, c316⟩ : ∃ v, I72 a0 8 = v := ⟨_, rfl⟩
      have b317 := iv15_8 hS80.1 ta0 c316
      exact tr_vret hZ dX12_readSlice_44 rfl (by decide) (by decide) ⟨rfl, rfl, rfl, rfl, rfl, hS80, (fun b hb => (Option.some.inj (d2.symm.trans hb)) ▸ ((FrM.rf (R := R0) (b := a1) (T := T)).st g75 (by decide +kernel))), (fun dr hd => (Option.some.inj (d2.symm.trans hd)) ▸ hO82), (Or.inr (⟨(by first | done | with_reducible assumption | exact om_3a8e1f7c eF), (by (try rw [c283]); first | done | with_reducible assumption | omega), (by (try rw [c286]); first | done | with_reducible assumption | exact om_b88870c9 p101 eF), (by (try rw [c288]); first | done | with_reducible assumption | exact om_86fa3162 p11 p102 eP), trivial⟩)), trivial⟩
def wif_oC128 : List Nat := []
def wrf_oC128 : List Nat := []
def wlf_oC128 : List Nat := []
set_option maxHeartbeats 4000000 in
theorem sf_oC128 {X : cz_X} (hE : cz_env X) {T : Nat → Nat} {cn : Nat} {K N : Nat → Nat} {I0 : cz_I} {R0 : cz_R} {L0 : cz_L} {Q : cz_Q} (hZ : cz_Z X mX12_readCall Q) (hW0 : Wf T cn K N I0 R0 0) (gB : cz_B) {a0 : Nat} (ta0 : T a0 = 15) {x1 : Int32} {x2 : Int32} {x3 : Int32} {x4 : Int32} {x5 : Int32} (pre0 : (I0 a0 9).toInt = 5) (nn4 : ∃ b, R0 a0 4 = some b) {ls : Nat → Option Value} (hl0 : ls 0 = some (.ref a0)) (hl1 : ls 1 = some (.int x1)) (hl2 : ls 2 = some (.int x2)) (hl3 : ls 3 = some (.int x3)) (hl4 : ls 4 = some (.int x4)) (hl5 : ls 5 = some (.int x5)) (hq : ∀ (I' : cz_I) (R' : cz_R) (L' : cz_L), St T cn K N 0 wif_oC128 wrf_oC128 I0 R0 I' R' ∧ ((I' a0 9).toInt = 5) ∧ ((I' a0 13).toInt = (I0 a0 13).toInt) ∧ ((I' a0 14).toInt = (I0 a0 14).toInt) ∧ (∀ b, R0 a0 4 = some b → FrM R0 b T I0 I') ∧ True → Q none cn K N I' R' L') : Tr X mX12_readCall 128 ls [] cn K N I0 R0 L0 0 0 := by
  have hS0 : St T cn K N 0 wif_oC128 wrf_oC128 I0 R0 I0 R0 := St.rf0 hW0
  have hL0 : LgS T wlf_oC128 L0 L0 := LgS.rf0
  obtain ⟨a1, d2⟩ := nn4
  have ta1 : T a1 = 14 := hW0.rsN ta0 rfl d2
  obtain ⟨v3, c4⟩ : ∃ v, I0 a0 9 = v := ⟨_, rfl⟩
  have b5 := iv15_9 hW0 ta0 c4
  have p6 := pre0
  rw [c4] at p6
  obtain ⟨v7, c8⟩ : ∃ v, I0 a0 13 = v := ⟨_, rfl⟩
  obtain ⟨v9, c10⟩ : ∃ v, I0 a0 14 = v := ⟨_, rfl⟩
  refine tr_aload_n dX12_readCall_128 hl0 ?_
  refine q_getI dX12_readCall_129 fl12_99 (kR15 hS0.1 ta0) c4 ?_
  refine q_iconst dX12_readCall_132 (by decide) ?_
  intro v11 h12
  refine q_icmp_ne 137 dX12_readCall_133 (by decide) (fun h13 => ?_) (fun h13 => ?_)
  · skip
    exfalso; exact om_1fa3e129 p6 h12 h13
  · skip
    exact tr_vret hZ dX12_readCall_136 rfl (by decide) (by decide) (hq _ _ _ ⟨hS0, (by (try rw [c4]); first | done | with_reducible assumption | omega), (by (try rw [c8]); first | done | with_reducible assumption | omega), (by (try rw [c10]); first | done | with_reducible assumption | omega), (fun b hb => (Option.some.inj (d2.symm.trans hb)) ▸ (FrM.rf (R := R0) (b := a1) (T := T))), trivial⟩)
def wif_oC116 : List Nat := [968, 969, 970, 971, 972, 973, 974]
def wrf_oC116 : List Nat := []
def wlf_oC116 : List Nat := []
set_option maxHeartbeats 4000000 in
theorem sf_oC116 {X : cz_X} (hE : cz_env X) {T : Nat → Nat} {cn : Nat} {K N : Nat → Nat} {I0 : cz_I} {R0 : cz_R} {L0 : cz_L} {Q : cz_Q} (hZ : cz_Z X mX12_readCall Q) (hW0 : Wf T cn K N I0 R0 0) (gB : cz_B) {a0 : Nat} (ta0 : T a0 = 15) {x1 : Int32} {x2 : Int32} {x3 : Int32} {x4 : Int32} (pre0 : (I0 a0 9).toInt = 5) (nn4 : ∃ b, R0 a0 4 = some b) {ls : Nat → Option Value} (hl0 : ls 0 = some (.ref a0)) (hl1 : ls 1 = some (.int x1)) (hl2 : ls 2 = some (.int x2)) (hl3 : ls 3 = some (.int x3)) (hl4 : ls 4 = some (.int x4)) (hq : ∀ (I' : cz_I) (R' : cz_R) (L' : cz_L), St T cn K N 0 wif_oC116 wrf_oC116 I0 R0 I' R' ∧ ((I' a0 9).toInt = 5) ∧ ((I' a0 13).toInt = (I0 a0 13).toInt) ∧ ((I' a0 14).toInt = (I0 a0 14).toInt) ∧ (∀ b, R0 a0 4 = some b → FrM R0 b T I0 I') ∧ True → Q none cn K N I' R' L') : Tr X mX12_readCall 116 ls [] cn K N I0 R0 L0 0 0 := by
  have hS0 : St T cn K N 0 wif_oC116 wrf_oC116 I0 R0 I0 R0 := St.rf0 hW0
  have hL0 : LgS T wlf_oC116 L0 L0 := LgS.rf0
  obtain ⟨a1, d2⟩ := nn4
  have ta1 : T a1 = 14 := hW0.rsN ta0 rfl d2
  obtain ⟨v3, c4⟩ : ∃ v, I0 a0 9 = v := ⟨_, rfl⟩
  have b5 := iv15_9 hS0.1 ta0 c4
  have p6 := pre0
  rw [c4] at p6
  obtain ⟨v7, c8⟩ : ∃ v, I0 a0 13 = v := ⟨_, rfl⟩
  obtain ⟨v9, c10⟩ : ∃ v, I0 a0 14 = v := ⟨_, rfl⟩
  refine tr_aload_n dX12_readCall_116 hl0 ?_
  refine tr_ldcwS dX12_readCall_117 ld12_356 ?_
  refine q_iconst dX12_readCall_120 (by decide) ?_
  intro v11 h12
  refine q_bipush dX12_readCall_121 (by decide +kernel) ?_
  intro v13 h14
  refine q_callVi hE (M' := mX12_readPart) (as := [_, _, _]) dX12_readCall_123 lk12_249 inX12_readPart seX12_readPart myX12_readPart (by decide) ⟨by decide, by decide⟩ rfl (kR15 hS0.1 ta0) (Nat.le_of_ble_eq_true rfl) rfl rfl (by decide) (by decide) (k_X12_readPart hS0.1 ta0 (by decide)) ?_
  rintro v19 cn' K' N' I15 R16 L17 ⟨rfl, rfl, rfl, rfl, g18, p20, w21, -⟩
  have hS22 := hS0.tr g18 (by decide +kernel) (by decide +kernel)
  have b23 : 0 ≤ v19.toInt ∧ v19.toInt ≤ 99 := by exact om_caf9e5f4 h12 h14 p20
  clear p20
  have ov24 := w21.over (by rw [c4]; exact om_394b70a2 p6)
  obtain ⟨v25, c26⟩ : ∃ v, I15 a0 9 = v := ⟨_, rfl⟩
  have b27 := iv15_9 hS22.1 ta0 c26
  obtain ⟨v28, c29⟩ : ∃ v, I15 a0 13 = v := ⟨_, rfl⟩
  obtain ⟨v30, c31⟩ : ∃ v, I15 a0 14 = v := ⟨_, rfl⟩
  (try rw [c26] at ov24)
  (try rw [c29] at ov24)
  (try rw [c31] at ov24)
  (try rw [c4] at ov24)
  (try rw [c8] at ov24)
  (try rw [c10] at ov24)
  refine tr_istore dX12_readCall_126 (by decide) (by decide) ?_
  refine sf_oC128 hE hZ hS22.1 (gB) ta0 (by (try rw [c26]); first | done | with_reducible assumption | exact om_394b70a2 ov24.1) ⟨_, d2⟩ hl0 hl1 hl2 hl3 hl4 rfl ?_
  rintro I32 R33 L34 ⟨g35, p36, p37, p38, rp39, -⟩
  obtain rfl : R0 = R33 := funext fun a => funext fun j => (g35.2.2 a j (wm_no rfl)).symm
  have hS40 := hS22.tr g35 (by decide +kernel) (by decide +kernel)
  have c41 : I32 a0 9 = v25 := (g35.cell ta0 (by decide +kernel)).trans c26
  have c42 : I32 a0 13 = v28 := (g35.cell ta0 (by decide +kernel)).trans c29
  have c43 : I32 a0 14 = v30 := (g35.cell ta0 (by decide +kernel)).trans c31
  rw [c41] at p36
  rw [c42] at p37
  rw [c29] at p37
  rw [c43] at p38
  rw [c31] at p38
  exact hq _ _ _ ⟨hS40, (by (try rw [c41]); first | done | with_reducible assumption | omega), (by (try rw [c42]); (try rw [c8]); first | done | with_reducible assumption | exact om_acd7a85a ov24.2.1), (by (try rw [c43]); (try rw [c10]); first | done | with_reducible assumption | exact om_acd7a85a ov24.2.2), (fun b hb => (Option.some.inj (d2.symm.trans hb)) ▸ (((FrM.rf (R := R0) (b := a1) (T := T)).st g18 (by decide +kernel)).st g35 (by decide +kernel))), trivial⟩
def wif_oC104 : List Nat := [968, 969, 970, 971, 972, 973, 974]
def wrf_oC104 : List Nat := []
def wlf_oC104 : List Nat := []
set_option maxHeartbeats 4000000 in
theorem sf_oC104 {X : cz_X} (hE : cz_env X) {T : Nat → Nat} {cn : Nat} {K N : Nat → Nat} {I0 : cz_I} {R0 : cz_R} {L0 : cz_L} {Q : cz_Q} (hZ : cz_Z X mX12_readCall Q) (hW0 : Wf T cn K N I0 R0 0) (gB : cz_B) {a0 : Nat} (ta0 : T a0 = 15) {x1 : Int32} {x2 : Int32} {x3 : Int32} (pre0 : (I0 a0 9).toInt = 5) (nn4 : ∃ b, R0 a0 4 = some b) {ls : Nat → Option Value} (hl0 : ls 0 = some (.ref a0)) (hl1 : ls 1 = some (.int x1)) (hl2 : ls 2 = some (.int x2)) (hl3 : ls 3 = some (.int x3)) (hq : ∀ (I' : cz_I) (R' : cz_R) (L' : cz_L), St T cn K N 0 wif_oC104 wrf_oC104 I0 R0 I' R' ∧ ((I' a0 9).toInt = 5) ∧ ((I' a0 13).toInt = (I0 a0 13).toInt) ∧ ((I' a0 14).toInt = (I0 a0 14).toInt) ∧ (∀ b, R0 a0 4 = some b → FrM R0 b T I0 I') ∧ True → Q none cn K N I' R' L') : Tr X mX12_readCall 104 ls [] cn K N I0 R0 L0 0 0 := by
  have hS0 : St T cn K N 0 wif_oC104 wrf_oC104 I0 R0 I0 R0 := St.rf0 hW0
  have hL0 : LgS T wlf_oC104 L0 L0 := LgS.rf0
  obtain ⟨a1, d2⟩ := nn4
  have ta1 : T a1 = 14 := hW0.rsN ta0 rfl d2
  obtain ⟨v3, c4⟩ : ∃ v, I0 a0 9 = v := ⟨_, rfl⟩
  have b5 := iv15_9 hS0.1 ta0 c4
  have p6 := pre0
  rw [c4] at p6
  obtain ⟨v7, c8⟩ : ∃ v, I0 a0 13 = v := ⟨_, rfl⟩
  obtain ⟨v9, c10⟩ : ∃ v, I0 a0 14 = v := ⟨_, rfl⟩
  refine tr_aload_n dX12_readCall_104 hl0 ?_
  refine tr_ldcwS dX12_readCall_105 ld12_354 ?_
  refine q_iconst dX12_readCall_108 (by decide) ?_
  intro v11 h12
  refine q_bipush dX12_readCall_109 (by decide +kernel) ?_
  intro v13 h14
  refine q_callVi hE (M' := mX12_readPart) (as := [_, _, _]) dX12_readCall_111 lk12_249 inX12_readPart seX12_readPart myX12_readPart (by decide) ⟨by decide, by decide⟩ rfl (kR15 hS0.1 ta0) (Nat.le_of_ble_eq_true rfl) rfl rfl (by decide) (by decide) (k_X12_readPart hS0.1 ta0 (by decide)) ?_
  rintro v19 cn' K' N' I15 R16 L17 ⟨rfl, rfl, rfl, rfl, g18, p20, w21, -⟩
  have hS22 := hS0.tr g18 (by decide +kernel) (by decide +kernel)
  have b23 : 1 ≤ v19.toInt ∧ v19.toInt ≤ 60 := by exact om_9b23b34d h12 h14 p20
  clear p20
  have ov24 := w21.over (by rw [c4]; exact om_394b70a2 p6)
  obtain ⟨v25, c26⟩ : ∃ v, I15 a0 9 = v := ⟨_, rfl⟩
  have b27 := iv15_9 hS22.1 ta0 c26
  obtain ⟨v28, c29⟩ : ∃ v, I15 a0 13 = v := ⟨_, rfl⟩
  obtain ⟨v30, c31⟩ : ∃ v, I15 a0 14 = v := ⟨_, rfl⟩
  (try rw [c26] at ov24)
  (try rw [c29] at ov24)
  (try rw [c31] at ov24)
  (try rw [c4] at ov24)
  (try rw [c8] at ov24)
  (try rw [c10] at ov24)
  refine tr_istore dX12_readCall_114 (by decide) (by decide) ?_
  refine sf_oC116 hE hZ hS22.1 (gB) ta0 (by (try rw [c26]); first | done | with_reducible assumption | exact om_394b70a2 ov24.1) ⟨_, d2⟩ hl0 hl1 hl2 hl3 rfl ?_
  rintro I32 R33 L34 ⟨g35, p36, p37, p38, rp39, -⟩
  obtain rfl : R0 = R33 := funext fun a => funext fun j => (g35.2.2 a j (wm_no rfl)).symm
  have hS40 := hS22.tr g35 (by decide +kernel) (by decide +kernel)
  obtain ⟨v41, c42⟩ : ∃ v, I32 a0 9 = v := ⟨_, rfl⟩
  have b43 := iv15_9 hS40.1 ta0 c42
  rw [c42] at p36
  obtain ⟨v44, c45⟩ : ∃ v, I32 a0 13 = v := ⟨_, rfl⟩
  rw [c45] at p37
  rw [c29] at p37
  obtain ⟨v46, c47⟩ : ∃ v, I32 a0 14 = v := ⟨_, rfl⟩
  rw [c47] at p38
  rw [c31] at p38
  exact hq _ _ _ ⟨hS40, (by (try rw [c42]); first | done | with_reducible assumption | omega), (by (try rw [c45]); (try rw [c8]); first | done | with_reducible assumption | exact om_9fa72578 ov24.2.1 p37), (by (try rw [c47]); (try rw [c10]); first | done | with_reducible assumption | exact om_9fa72578 ov24.2.2 p38), (fun b hb => (Option.some.inj (d2.symm.trans hb)) ▸ (((FrM.rf (R := R0) (b := a1) (T := T)).st g18 (by decide +kernel)).st g35 (by decide +kernel))), trivial⟩
def wif_oC82 : List Nat := [968, 969, 970, 971, 972, 973, 974]
def wrf_oC82 : List Nat := []
def wlf_oC82 : List Nat := []
set_option maxHeartbeats 4000000 in
theorem sf_oC82 {X : cz_X} (hE : cz_env X) {T : Nat → Nat} {cn : Nat} {K N : Nat → Nat} {I0 : cz_I} {R0 : cz_R} {L0 : cz_L} {Q : cz_Q} (hZ : cz_Z X mX12_readCall Q) (hW0 : Wf T cn K N I0 R0 0) (gB : cz_B) {a0 : Nat} (ta0 : T a0 = 15) {x1 : Int32} {x2 : Int32} (pre0 : (I0 a0 9).toInt = 5) (nn4 : ∃ b, R0 a0 4 = some b) {ls : Nat → Option Value} (hl0 : ls 0 = some (.ref a0)) (hl1 : ls 1 = some (.int x1)) (hl2 : ls 2 = some (.int x2)) (hq : ∀ (I' : cz_I) (R' : cz_R) (L' : cz_L), St T cn K N 0 wif_oC82 wrf_oC82 I0 R0 I' R' ∧ ((I' a0 9).toInt = 5) ∧ ((I' a0 13).toInt = (I0 a0 13).toInt) ∧ ((I' a0 14).toInt = (I0 a0 14).toInt) ∧ (∀ b, R0 a0 4 = some b → FrM R0 b T I0 I') ∧ True → Q none cn K N I' R' L') : Tr X mX12_readCall 82 ls [] cn K N I0 R0 L0 0 0 := by
  have hS0 : St T cn K N 0 wif_oC82 wrf_oC82 I0 R0 I0 R0 := St.rf0 hW0
  have hL0 : LgS T wlf_oC82 L0 L0 := LgS.rf0
  obtain ⟨a1, d2⟩ := nn4
  have ta1 : T a1 = 14 := hW0.rsN ta0 rfl d2
  obtain ⟨v3, c4⟩ : ∃ v, I0 a0 9 = v := ⟨_, rfl⟩
  have b5 := iv15_9 hS0.1 ta0 c4
  have p6 := pre0
  rw [c4] at p6
  obtain ⟨v7, c8⟩ : ∃ v, I0 a0 13 = v := ⟨_, rfl⟩
  obtain ⟨v9, c10⟩ : ∃ v, I0 a0 14 = v := ⟨_, rfl⟩
  refine tr_aload_n dX12_readCall_82 hl0 ?_
  obtain ⟨v11, c12⟩ : ∃ v, I0 a0 8 = v := ⟨_, rfl⟩
  have b13 := iv15_8 hS0.1 ta0 c12
  refine q_callVv hE (M' := mX12_goesOn) (as := []) dX12_readCall_83 lk12_142 inX12_goesOn seX12_goesOn myX12_goesOn (by decide) ⟨by decide, by decide⟩ rfl (kR15 hS0.1 ta0) (Nat.le_of_ble_eq_true rfl) rfl rfl (by decide) (by decide) (k_X12_goesOn hS0.1 ta0) ?_
  rintro cn' K' N' I14 R15 L16 ⟨rfl, rfl, rfl, rfl, g17, p19, p20, p21, w22, -⟩
  have hS23 := hS0.tr g17 (by decide +kernel) (by decide +kernel)
  have c24 : I14 a0 13 = v7 := (g17.cell ta0 (by decide +kernel)).trans c8
  have c25 : I14 a0 14 = v9 := (g17.cell ta0 (by decide +kernel)).trans c10
  obtain ⟨v26, c27⟩ : ∃ v, I14 a0 9 = v := ⟨_, rfl⟩
  have b28 := iv15_9 hS23.1 ta0 c27
  rw [c4] at p19
  rw [c27] at p19
  rw [c4] at p20
  rw [c27] at p20
  obtain ⟨v29, c30⟩ : ∃ v, I14 a0 8 = v := ⟨_, rfl⟩
  have b31 := iv15_8 hS23.1 ta0 c30
  rw [c30] at p21
  rw [c12] at p21
  rw [c24] at p21
  rw [c8] at p21
  have ov32 := w22.over (by rw [c4]; exact om_394b70a2 p6)
  obtain ⟨v33, c34⟩ : ∃ v, I14 a0 9 = v := ⟨_, rfl⟩
  have b35 := iv15_9 hS23.1 ta0 c34
  obtain ⟨v36, c37⟩ : ∃ v, I14 a0 13 = v := ⟨_, rfl⟩
  obtain ⟨v38, c39⟩ : ∃ v, I14 a0 14 = v := ⟨_, rfl⟩
  (try rw [c34] at ov32)
  (try rw [c37] at ov32)
  (try rw [c39] at ov32)
  (try rw [c4] at ov32)
  (try rw [c8] at ov32)
  (try rw [c10] at ov32)
  refine tr_aload_n dX12_readCall_86 hl0 ?_
  refine tr_ldcwS dX12_readCall_87 ld12_352 ?_
  refine q_iconst dX12_readCall_90 (by decide) ?_
  intro v40 h41
  refine tr_aload_n dX12_readCall_91 hl0 ?_
  refine tr_getR dX12_readCall_92 fl12_188 (kR15 hS23.1 ta0) d2 ?_
  obtain ⟨v42, c43⟩ : ∃ v, I0 a1 0 = v := ⟨_, rfl⟩
  have b44 := iv14_0 hW0 ta1 c43
  refine q_getI dX12_readCall_95 fl12_192 (kR14 hS23.1 ta1) ((hS23.cell ta1 (by decide +kernel)).trans c43) ?_
  refine q_iconst dX12_readCall_98 (by decide) ?_
  intro v45 h46
  refine q_isubE dX12_readCall_99 (by intro j1 j2 j3 j4; exact om_c6626f59 b44.2 b44.1 h46) ?_
  intro v47 h48
  refine q_callVi hE (M' := mX12_readPart) (as := [_, _, _]) dX12_readCall_100 lk12_249 inX12_readPart seX12_readPart myX12_readPart (by decide) ⟨by decide, by decide⟩ rfl (kR15 hS23.1 ta0) (Nat.le_of_ble_eq_true rfl) rfl rfl (by decide) (by decide) (k_X12_readPart hS23.1 ta0 (by decide)) ?_
  rintro v53 cn' K' N' I49 R50 L51 ⟨rfl, rfl, rfl, rfl, g52, p54, w55, -⟩
  have hS56 := hS23.tr g52 (by decide +kernel) (by decide +kernel)
  have b57 : 0 ≤ v53.toInt ∧ v53.toInt ≤ 239 := by exact om_62c0eb21 h41 b44.2 b44.1 h46 h48 p54
  clear p54
  have ov58 := w55.over (by rw [c34]; exact om_394b70a2 ov32.1)
  obtain ⟨v59, c60⟩ : ∃ v, I49 a0 9 = v := ⟨_, rfl⟩
  have b61 := iv15_9 hS56.1 ta0 c60
  obtain ⟨v62, c63⟩ : ∃ v, I49 a0 13 = v := ⟨_, rfl⟩
  obtain ⟨v64, c65⟩ : ∃ v, I49 a0 14 = v := ⟨_, rfl⟩
  (try rw [c60] at ov58)
  (try rw [c63] at ov58)
  (try rw [c65] at ov58)
  (try rw [c34] at ov58)
  (try rw [c37] at ov58)
  (try rw [c39] at ov58)
  refine tr_istore_n dX12_readCall_103 (by decide) (by decide) ?_
  refine sf_oC104 hE hZ hS56.1 (gB) ta0 (by (try rw [c60]); first | done | with_reducible assumption | exact om_394b70a2 ov58.1) ⟨_, d2⟩ hl0 hl1 hl2 rfl ?_
  rintro I66 R67 L68 ⟨g69, p70, p71, p72, rp73, -⟩
  obtain rfl : R0 = R67 := funext fun a => funext fun j => (g69.2.2 a j (wm_no rfl)).symm
  have hS74 := hS56.tr g69 (by decide +kernel) (by decide +kernel)
  obtain ⟨v75, c76⟩ : ∃ v, I66 a0 9 = v := ⟨_, rfl⟩
  have b77 := iv15_9 hS74.1 ta0 c76
  rw [c76] at p70
  obtain ⟨v78, c79⟩ : ∃ v, I66 a0 13 = v := ⟨_, rfl⟩
  rw [c79] at p71
  rw [c63] at p71
  obtain ⟨v80, c81⟩ : ∃ v, I66 a0 14 = v := ⟨_, rfl⟩
  rw [c81] at p72
  rw [c65] at p72
  exact hq _ _ _ ⟨hS74, (by (try rw [c76]); first | done | with_reducible assumption | omega), (by (try rw [c79]); (try rw [c8]); first | done | with_reducible assumption | exact om_1c22ab7e ov32.2.1 ov58.2.1 p71), (by (try rw [c81]); (try rw [c10]); first | done | with_reducible assumption | exact om_1c22ab7e ov32.2.2 ov58.2.2 p72), (fun b hb => (Option.some.inj (d2.symm.trans hb)) ▸ ((((FrM.rf (R := R0) (b := a1) (T := T)).st g17 (by decide +kernel)).st g52 (by decide +kernel)).st g69 (by decide +kernel))), trivial⟩
def wif_oC60 : List Nat := [968, 969, 970, 971, 972, 973, 974]
def wrf_oC60 : List Nat := []
def wlf_oC60 : List Nat := []
set_option maxHeartbeats 4000000 in
theorem sf_oC60 {X : cz_X} (hE : cz_env X) {T : Nat → Nat} {cn : Nat} {K N : Nat → Nat} {I0 : cz_I} {R0 : cz_R} {L0 : cz_L} {Q : cz_Q} (hZ : cz_Z X mX12_readCall Q) (hW0 : Wf T cn K N I0 R0 0) (gB : cz_B) {a0 : Nat} (ta0 : T a0 = 15) {x1 : Int32} (pre0 : (I0 a0 9).toInt = 5) (nn4 : ∃ b, R0 a0 4 = some b) {ls : Nat → Option Value} (hl0 : ls 0 = some (.ref a0)) (hl1 : ls 1 = some (.int x1)) (hq : ∀ (I' : cz_I) (R' : cz_R) (L' : cz_L), St T cn K N 0 wif_oC60 wrf_oC60 I0 R0 I' R' ∧ ((I' a0 9).toInt = 5) ∧ ((I' a0 13).toInt = (I0 a0 13).toInt) ∧ ((I' a0 14).toInt = (I0 a0 14).toInt) ∧ (∀ b, R0 a0 4 = some b → FrM R0 b T I0 I') ∧ True → Q none cn K N I' R' L') : Tr X mX12_readCall 60 ls [] cn K N I0 R0 L0 0 0 := by
  have hS0 : St T cn K N 0 wif_oC60 wrf_oC60 I0 R0 I0 R0 := St.rf0 hW0
  have hL0 : LgS T wlf_oC60 L0 L0 := LgS.rf0
  obtain ⟨a1, d2⟩ := nn4
  have ta1 : T a1 = 14 := hW0.rsN ta0 rfl d2
  obtain ⟨v3, c4⟩ : ∃ v, I0 a0 9 = v := ⟨_, rfl⟩
  have b5 := iv15_9 hS0.1 ta0 c4
  have p6 := pre0
  rw [c4] at p6
  obtain ⟨v7, c8⟩ : ∃ v, I0 a0 13 = v := ⟨_, rfl⟩
  obtain ⟨v9, c10⟩ : ∃ v, I0 a0 14 = v := ⟨_, rfl⟩
  refine tr_aload_n dX12_readCall_60 hl0 ?_
  refine q_getI dX12_readCall_61 fl12_99 (kR15 hS0.1 ta0) c4 ?_
  refine q_iconst dX12_readCall_64 (by decide) ?_
  intro v11 h12
  refine q_icmp_ne 72 dX12_readCall_65 (by decide) (fun h13 => ?_) (fun h13 => ?_)
  · skip
    exfalso; exact om_1fa3e129 p6 h12 h13
  · skip
    refine q_iconst dX12_readCall_68 (by decide) ?_
    intro v14 h15
    refine tr_goto 81 dX12_readCall_69 (by decide) ?_
    refine tr_istore_n dX12_readCall_81 (by decide) (by decide) ?_
    refine sf_oC82 hE hZ hS0.1 (gB) ta0 (by (try rw [c4]); first | done | with_reducible assumption | omega) ⟨_, d2⟩ hl0 hl1 rfl ?_
    rintro I16 R17 L18 ⟨g19, p20, p21, p22, rp23, -⟩
    obtain rfl : R0 = R17 := funext fun a => funext fun j => (g19.2.2 a j (wm_no rfl)).symm
    have hS24 := hS0.tr g19 (by decide +kernel) (by decide +kernel)
    obtain ⟨v25, c26⟩ : ∃ v, I16 a0 9 = v := ⟨_, rfl⟩
    have b27 := iv15_9 hS24.1 ta0 c26
    rw [c26] at p20
    obtain ⟨v28, c29⟩ : ∃ v, I16 a0 13 = v := ⟨_, rfl⟩
    rw [c29] at p21
    rw [c8] at p21
    obtain ⟨v30, c31⟩ : ∃ v, I16 a0 14 = v := ⟨_, rfl⟩
    rw [c31] at p22
    rw [c10] at p22
    exact hq _ _ _ ⟨hS24, (by (try rw [c26]); first | done | with_reducible assumption | omega), (by (try rw [c29]); (try rw [c8]); first | done | with_reducible assumption | omega), (by (try rw [c31]); (try rw [c10]); first | done | with_reducible assumption | omega), (fun b hb => (Option.some.inj (d2.symm.trans hb)) ▸ ((FrM.rf (R := R0) (b := a1) (T := T)).st g19 (by decide +kernel))), trivial⟩
def wif_oC25 : List Nat := [968, 969, 970, 971, 972, 973, 974]
def wrf_oC25 : List Nat := []
def wlf_oC25 : List Nat := []
set_option maxHeartbeats 4000000 in
theorem sf_oC25 {X : cz_X} (hE : cz_env X) {T : Nat → Nat} {cn : Nat} {K N : Nat → Nat} {I0 : cz_I} {R0 : cz_R} {L0 : cz_L} {Q : cz_Q} (hZ : cz_Z X mX12_readCall Q) (hW0 : Wf T cn K N I0 R0 0) (gB : cz_B) {a0 : Nat} (ta0 : T a0 = 15) (pre0 : (I0 a0 9).toInt = 5) (nn4 : ∃ b, R0 a0 4 = some b) {ls : Nat → Option Value} (hl0 : ls 0 = some (.ref a0)) (hq : ∀ (I' : cz_I) (R' : cz_R) (L' : cz_L), St T cn K N 0 wif_oC25 wrf_oC25 I0 R0 I' R' ∧ ((I' a0 9).toInt = 5) ∧ ((I' a0 13).toInt = (I0 a0 13).toInt) ∧ ((I' a0 14).toInt = (I0 a0 14).toInt) ∧ (∀ b, R0 a0 4 = some b → FrM R0 b T I0 I') ∧ True → Q none cn K N I' R' L') : Tr X mX12_readCall 25 ls [] cn K N I0 R0 L0 0 0 := by
  have hS0 : St T cn K N 0 wif_oC25 wrf_oC25 I0 R0 I0 R0 := St.rf0 hW0
  have hL0 : LgS T wlf_oC25 L0 L0 := LgS.rf0
  obtain ⟨a1, d2⟩ := nn4
  have ta1 : T a1 = 14 := hW0.rsN ta0 rfl d2
  obtain ⟨v3, c4⟩ : ∃ v, I0 a0 9 = v := ⟨_, rfl⟩
  have b5 := iv15_9 hS0.1 ta0 c4
  have p6 := pre0
  rw [c4] at p6
  obtain ⟨v7, c8⟩ : ∃ v, I0 a0 13 = v := ⟨_, rfl⟩
  obtain ⟨v9, c10⟩ : ∃ v, I0 a0 14 = v := ⟨_, rfl⟩
  refine tr_aload_n dX12_readCall_25 hl0 ?_
  refine tr_getR dX12_readCall_26 fl12_188 (kR15 hS0.1 ta0) d2 ?_
  refine tr_aload_n dX12_readCall_29 hl0 ?_
  obtain ⟨y11, c12⟩ : ∃ v, L0 a0 15 = v := ⟨_, rfl⟩
  refine q_getLE dX12_readCall_30 fl12_118 (kR15 hS0.1 ta0) c12 ?_
  refine q_callVi hE (M' := mX11_find) (as := [_]) dX12_readCall_33 lk12_201 inX11_find seX11_find myX11_find (by decide) ⟨by decide, by decide⟩ rfl (kR14 hS0.1 ta1) (Nat.le_of_ble_eq_true rfl) rfl rfl (by decide) (by decide) (k_X11_find hS0.1 ta1) ?_
  rintro v17 cn' K' N' I13 R14 L15 ⟨rfl, rfl, rfl, rfl, rfl, rfl, h18, -⟩
  refine tr_istore_n dX12_readCall_36 (by decide) (by decide) ?_
  refine tr_iload_n dX12_readCall_37 rfl ?_
  refine q_iconst dX12_readCall_38 (by decide) ?_
  intro v19 h20
  refine q_icmp_eq 55 dX12_readCall_39 (by decide) (fun h21 => ?_) (fun h21 => ?_)
  · skip
    refine tr_aload_n dX12_readCall_55 hl0 ?_
    refine q_iconst dX12_readCall_56 (by decide) ?_
    intro v22 h23
    obtain ⟨v24, c25⟩ : ∃ v, I0 a0 8 = v := ⟨_, rfl⟩
    have b26 := iv15_8 hS0.1 ta0 c25
    refine q_callVv hE (M' := mX12_flaw) (as := [_]) dX12_readCall_57 lk12_145 inX12_flaw seX12_flaw myX12_flaw (by decide) ⟨by decide, by decide⟩ rfl (kR15 hS0.1 ta0) (Nat.le_of_ble_eq_true rfl) rfl rfl (by decide) (by decide) (k_X12_flaw hS0.1 ta0 (by exact om_18f49b90 h23)) ?_
    rintro cn' K' N' I27 R28 L29 ⟨rfl, rfl, rfl, rfl, rfl, g30, p32, p33, w34, -⟩
    have hS35 := hS0.tr g30 (by decide +kernel) (by decide +kernel)
    have c36 : I27 a0 8 = v24 := (g30.cell ta0 (by decide +kernel)).trans c25
    obtain ⟨v37, c38⟩ : ∃ v, I27 a0 9 = v := ⟨_, rfl⟩
    have b39 := iv15_9 hS35.1 ta0 c38
    rw [c38] at p32
    rw [c36] at p33
    rw [c25] at p33
    have ov40 := w34.over (by rw [c4]; exact om_394b70a2 p6)
    obtain ⟨v41, c42⟩ : ∃ v, I27 a0 9 = v := ⟨_, rfl⟩
    have b43 := iv15_9 hS35.1 ta0 c42
    obtain ⟨v44, c45⟩ : ∃ v, I27 a0 13 = v := ⟨_, rfl⟩
    obtain ⟨v46, c47⟩ : ∃ v, I27 a0 14 = v := ⟨_, rfl⟩
    (try rw [c42] at ov40)
    (try rw [c45] at ov40)
    (try rw [c47] at ov40)
    (try rw [c4] at ov40)
    (try rw [c8] at ov40)
    (try rw [c10] at ov40)
    refine sf_oC60 hE hZ hS35.1 (gB) ta0 (by (try rw [c42]); first | done | with_reducible assumption | exact om_394b70a2 ov40.1) ⟨_, d2⟩ hl0 rfl ?_
    rintro I48 R49 L50 ⟨g51, p52, p53, p54, rp55, -⟩
    obtain rfl : R0 = R49 := funext fun a => funext fun j => (g51.2.2 a j (wm_no rfl)).symm
    have hS56 := hS35.tr g51 (by decide +kernel) (by decide +kernel)
    obtain ⟨v57, c58⟩ : ∃ v, I48 a0 9 = v := ⟨_, rfl⟩
    have b59 := iv15_9 hS56.1 ta0 c58
    rw [c58] at p52
    obtain ⟨v60, c61⟩ : ∃ v, I48 a0 13 = v := ⟨_, rfl⟩
    rw [c61] at p53
    rw [c45] at p53
    obtain ⟨v62, c63⟩ : ∃ v, I48 a0 14 = v := ⟨_, rfl⟩
    rw [c63] at p54
    rw [c47] at p54
    exact hq _ _ _ ⟨hS56, (by (try rw [c58]); first | done | with_reducible assumption | omega), (by (try rw [c61]); (try rw [c8]); first | done | with_reducible assumption | exact om_9fa72578 ov40.2.1 p53), (by (try rw [c63]); (try rw [c10]); first | done | with_reducible assumption | exact om_9fa72578 ov40.2.2 p54), (fun b hb => (Option.some.inj (d2.symm.trans hb)) ▸ (((FrM.rf (R := R0) (b := a1) (T := T)).st g30 (by decide +kernel)).st g51 (by decide +kernel))), trivial⟩
  · skip
    refine tr_aload_n dX12_readCall_42 hl0 ?_
    refine tr_getR dX12_readCall_43 fl12_188 (kR15 hS0.1 ta0) d2 ?_
    obtain ⟨a64, d65, ta64⟩ := rf14_31 hW0 ta1
    refine tr_getR dX12_readCall_46 fl12_212 (kR14 hS0.1 ta1) d65 ?_
    refine tr_iload_n dX12_readCall_49 rfl ?_
    refine q_iald dX12_readCall_50 (kR74 hS0.1 ta64) (ti_in (nR74 hS0.1 ta64) (by exact om_3fddbd34 h18.2 h18.1 h20 h21) (by exact om_ce29e679 h18.2 h18.1)) ?_
    intro v66 c67
    refine q_iconst dX12_readCall_51 (by decide) ?_
    intro v68 h69
    refine q_icmp_eq 60 dX12_readCall_52 (by decide) (fun h70 => ?_) (fun h70 => ?_)
    · skip
      refine sf_oC60 hE hZ hS0.1 (gB) ta0 (by (try rw [c4]); first | done | with_reducible assumption | omega) ⟨_, d2⟩ hl0 rfl ?_
      rintro I71 R72 L73 ⟨g74, p75, p76, p77, rp78, -⟩
      obtain rfl : R0 = R72 := funext fun a => funext fun j => (g74.2.2 a j (wm_no rfl)).symm
      have hS79 := hS0.tr g74 (by decide +kernel) (by decide +kernel)
      obtain ⟨v80, c81⟩ : ∃ v, I71 a0 9 = v := ⟨_, rfl⟩
      have b82 := iv15_9 hS79.1 ta0 c81
      rw [c81] at p75
      obtain ⟨v83, c84⟩ : ∃ v, I71 a0 13 = v := ⟨_, rfl⟩
      rw [c84] at p76
      rw [c8] at p76
      obtain ⟨v85, c86⟩ : ∃ v, I71 a0 14 = v := ⟨_, rfl⟩
      rw [c86] at p77
      rw [c10] at p77
      exact hq _ _ _ ⟨hS79, (by (try rw [c81]); first | done | with_reducible assumption | omega), (by (try rw [c84]); (try rw [c8]); first | done | with_reducible assumption | omega), (by (try rw [c86]); (try rw [c10]); first | done | with_reducible assumption | omega), (fun b hb => (Option.some.inj (d2.symm.trans hb)) ▸ ((FrM.rf (R := R0) (b := a1) (T := T)).st g74 (by decide +kernel))), trivial⟩
    · skip
      refine tr_aload_n dX12_readCall_55 hl0 ?_
      refine q_iconst dX12_readCall_56 (by decide) ?_
      intro v87 h88
      obtain ⟨v89, c90⟩ : ∃ v, I0 a0 8 = v := ⟨_, rfl⟩
      have b91 := iv15_8 hS0.1 ta0 c90
      refine q_callVv hE (M' := mX12_flaw) (as := [_]) dX12_readCall_57 lk12_145 inX12_flaw seX12_flaw myX12_flaw (by decide) ⟨by decide, by decide⟩ rfl (kR15 hS0.1 ta0) (Nat.le_of_ble_eq_true rfl) rfl rfl (by decide) (by decide) (k_X12_flaw hS0.1 ta0 (by exact om_18f49b90 h88)) ?_
      rintro cn' K' N' I92 R93 L94 ⟨rfl, rfl, rfl, rfl, rfl, g95, p97, p98, w99, -⟩
      have hS100 := hS0.tr g95 (by decide +kernel) (by decide +kernel)
      have c101 : I92 a0 8 = v89 := (g95.cell ta0 (by decide +kernel)).trans c90
      obtain ⟨v102, c103⟩ : ∃ v, I92 a0 9 = v := ⟨_, rfl⟩
      have b104 := iv15_9 hS100.1 ta0 c103
      rw [c103] at p97
      rw [c101] at p98
      rw [c90] at p98
      have ov105 := w99.over (by rw [c4]; exact om_394b70a2 p6)
      obtain ⟨v106, c107⟩ : ∃ v, I92 a0 9 = v := ⟨_, rfl⟩
      have b108 := iv15_9 hS100.1 ta0 c107
      obtain ⟨v109, c110⟩ : ∃ v, I92 a0 13 = v := ⟨_, rfl⟩
      obtain ⟨v111, c112⟩ : ∃ v, I92 a0 14 = v := ⟨_, rfl⟩
      (try rw [c107] at ov105)
      (try rw [c110] at ov105)
      (try rw [c112] at ov105)
      (try rw [c4] at ov105)
      (try rw [c8] at ov105)
      (try rw [c10] at ov105)
      refine sf_oC60 hE hZ hS100.1 (gB) ta0 (by (try rw [c107]); first | done | with_reducible assumption | exact om_394b70a2 ov105.1) ⟨_, d2⟩ hl0 rfl ?_
      rintro I113 R114 L115 ⟨g116, p117, p118, p119, rp120, -⟩
      obtain rfl : R0 = R114 := funext fun a => funext fun j => (g116.2.2 a j (wm_no rfl)).symm
      have hS121 := hS100.tr g116 (by decide +kernel) (by decide +kernel)
      obtain ⟨v122, c123⟩ : ∃ v, I113 a0 9 = v := ⟨_, rfl⟩
      have b124 := iv15_9 hS121.1 ta0 c123
      rw [c123] at p117
      obtain ⟨v125, c126⟩ : ∃ v, I113 a0 13 = v := ⟨_, rfl⟩
      rw [c126] at p118
      rw [c110] at p118
      obtain ⟨v127, c128⟩ : ∃ v, I113 a0 14 = v := ⟨_, rfl⟩
      rw [c128] at p119
      rw [c112] at p119
      exact hq _ _ _ ⟨hS121, (by (try rw [c123]); first | done | with_reducible assumption | omega), (by (try rw [c126]); (try rw [c8]); first | done | with_reducible assumption | exact om_9fa72578 ov105.2.1 p118), (by (try rw [c128]); (try rw [c10]); first | done | with_reducible assumption | exact om_9fa72578 ov105.2.2 p119), (fun b hb => (Option.some.inj (d2.symm.trans hb)) ▸ (((FrM.rf (R := R0) (b := a1) (T := T)).st g95 (by decide +kernel)).st g116 (by decide +kernel))), trivial⟩
def wif_oC13 : List Nat := [968, 969, 970, 971, 972, 973, 974]
def wrf_oC13 : List Nat := []
def wlf_oC13 : List Nat := []
set_option maxHeartbeats 4000000 in
theorem sf_oC13 {X : cz_X} (hE : cz_env X) {T : Nat → Nat} {cn : Nat} {K N : Nat → Nat} {I0 : cz_I} {R0 : cz_R} {L0 : cz_L} {Q : cz_Q} (hZ : cz_Z X mX12_readCall Q) (hW0 : Wf T cn K N I0 R0 0) (gB : cz_B) {a0 : Nat} (ta0 : T a0 = 15) (pre0 : (I0 a0 9).toInt = 5) (nn4 : ∃ b, R0 a0 4 = some b) {ls : Nat → Option Value} (hl0 : ls 0 = some (.ref a0)) (hq : ∀ (I' : cz_I) (R' : cz_R) (L' : cz_L), St T cn K N 0 wif_oC13 wrf_oC13 I0 R0 I' R' ∧ ((I' a0 9).toInt = 5) ∧ ((I' a0 13).toInt = (I0 a0 13).toInt) ∧ ((I' a0 14).toInt = (I0 a0 14).toInt) ∧ (∀ b, R0 a0 4 = some b → FrM R0 b T I0 I') ∧ True → Q none cn K N I' R' L') : Tr X mX12_readCall 13 ls [] cn K N I0 R0 L0 0 0 := by
  have hS0 : St T cn K N 0 wif_oC13 wrf_oC13 I0 R0 I0 R0 := St.rf0 hW0
  have hL0 : LgS T wlf_oC13 L0 L0 := LgS.rf0
  obtain ⟨a1, d2⟩ := nn4
  have ta1 : T a1 = 14 := hW0.rsN ta0 rfl d2
  obtain ⟨v3, c4⟩ : ∃ v, I0 a0 9 = v := ⟨_, rfl⟩
  have b5 := iv15_9 hS0.1 ta0 c4
  have p6 := pre0
  rw [c4] at p6
  obtain ⟨v7, c8⟩ : ∃ v, I0 a0 13 = v := ⟨_, rfl⟩
  obtain ⟨v9, c10⟩ : ∃ v, I0 a0 14 = v := ⟨_, rfl⟩
  refine tr_aload_n dX12_readCall_13 hl0 ?_
  refine q_callVi hE (M' := mX12_isName) (as := []) dX12_readCall_14 lk12_197 inX12_isName seX12_isName myX12_isName (by decide) ⟨by decide, by decide⟩ rfl (kR15 hS0.1 ta0) (Nat.le_of_ble_eq_true rfl) rfl rfl (by decide) (by decide) (k_X12_isName hS0.1 ta0) ?_
  rintro v15 cn' K' N' I11 R12 L13 ⟨rfl, rfl, rfl, rfl, rfl, rfl, h16, -⟩
  refine q_if_ne 25 dX12_readCall_17 (by decide) (fun h17 => ?_) (fun h17 => ?_)
  · skip
    refine sf_oC25 hE hZ hS0.1 (gB) ta0 (by (try rw [c4]); first | done | with_reducible assumption | omega) ⟨_, d2⟩ hl0 ?_
    rintro I18 R19 L20 ⟨g21, p22, p23, p24, rp25, -⟩
    obtain rfl : R0 = R19 := funext fun a => funext fun j => (g21.2.2 a j (wm_no rfl)).symm
    have hS26 := hS0.tr g21 (by decide +kernel) (by decide +kernel)
    obtain ⟨v27, c28⟩ : ∃ v, I18 a0 9 = v := ⟨_, rfl⟩
    have b29 := iv15_9 hS26.1 ta0 c28
    rw [c28] at p22
    obtain ⟨v30, c31⟩ : ∃ v, I18 a0 13 = v := ⟨_, rfl⟩
    rw [c31] at p23
    rw [c8] at p23
    obtain ⟨v32, c33⟩ : ∃ v, I18 a0 14 = v := ⟨_, rfl⟩
    rw [c33] at p24
    rw [c10] at p24
    exact hq _ _ _ ⟨hS26, (by (try rw [c28]); first | done | with_reducible assumption | omega), (by (try rw [c31]); (try rw [c8]); first | done | with_reducible assumption | omega), (by (try rw [c33]); (try rw [c10]); first | done | with_reducible assumption | omega), (fun b hb => (Option.some.inj (d2.symm.trans hb)) ▸ ((FrM.rf (R := R0) (b := a1) (T := T)).st g21 (by decide +kernel))), trivial⟩
  · skip
    refine tr_aload_n dX12_readCall_20 hl0 ?_
    refine q_iconst dX12_readCall_21 (by decide) ?_
    intro v34 h35
    obtain ⟨v36, c37⟩ : ∃ v, I0 a0 8 = v := ⟨_, rfl⟩
    have b38 := iv15_8 hS0.1 ta0 c37
    refine q_callVv hE (M' := mX12_flaw) (as := [_]) dX12_readCall_22 lk12_145 inX12_flaw seX12_flaw myX12_flaw (by decide) ⟨by decide, by decide⟩ rfl (kR15 hS0.1 ta0) (Nat.le_of_ble_eq_true rfl) rfl rfl (by decide) (by decide) (k_X12_flaw hS0.1 ta0 (by exact om_95922198 h35)) ?_
    rintro cn' K' N' I39 R40 L41 ⟨rfl, rfl, rfl, rfl, rfl, g42, p44, p45, w46, -⟩
    have hS47 := hS0.tr g42 (by decide +kernel) (by decide +kernel)
    have c48 : I39 a0 8 = v36 := (g42.cell ta0 (by decide +kernel)).trans c37
    obtain ⟨v49, c50⟩ : ∃ v, I39 a0 9 = v := ⟨_, rfl⟩
    have b51 := iv15_9 hS47.1 ta0 c50
    rw [c50] at p44
    rw [c48] at p45
    rw [c37] at p45
    have ov52 := w46.over (by rw [c4]; exact om_394b70a2 p6)
    obtain ⟨v53, c54⟩ : ∃ v, I39 a0 9 = v := ⟨_, rfl⟩
    have b55 := iv15_9 hS47.1 ta0 c54
    obtain ⟨v56, c57⟩ : ∃ v, I39 a0 13 = v := ⟨_, rfl⟩
    obtain ⟨v58, c59⟩ : ∃ v, I39 a0 14 = v := ⟨_, rfl⟩
    (try rw [c54] at ov52)
    (try rw [c57] at ov52)
    (try rw [c59] at ov52)
    (try rw [c4] at ov52)
    (try rw [c8] at ov52)
    (try rw [c10] at ov52)
    refine sf_oC25 hE hZ hS47.1 (gB) ta0 (by (try rw [c54]); first | done | with_reducible assumption | exact om_394b70a2 ov52.1) ⟨_, d2⟩ hl0 ?_
    rintro I60 R61 L62 ⟨g63, p64, p65, p66, rp67, -⟩
    obtain rfl : R0 = R61 := funext fun a => funext fun j => (g63.2.2 a j (wm_no rfl)).symm
    have hS68 := hS47.tr g63 (by decide +kernel) (by decide +kernel)
    obtain ⟨v69, c70⟩ : ∃ v, I60 a0 9 = v := ⟨_, rfl⟩
    have b71 := iv15_9 hS68.1 ta0 c70
    rw [c70] at p64
    obtain ⟨v72, c73⟩ : ∃ v, I60 a0 13 = v := ⟨_, rfl⟩
    rw [c73] at p65
    rw [c57] at p65
    obtain ⟨v74, c75⟩ : ∃ v, I60 a0 14 = v := ⟨_, rfl⟩
    rw [c75] at p66
    rw [c59] at p66
    exact hq _ _ _ ⟨hS68, (by (try rw [c70]); first | done | with_reducible assumption | omega), (by (try rw [c73]); (try rw [c8]); first | done | with_reducible assumption | exact om_9fa72578 ov52.2.1 p65), (by (try rw [c75]); (try rw [c10]); first | done | with_reducible assumption | exact om_9fa72578 ov52.2.2 p66), (fun b hb => (Option.some.inj (d2.symm.trans hb)) ▸ (((FrM.rf (R := R0) (b := a1) (T := T)).st g42 (by decide +kernel)).st g63 (by decide +kernel))), trivial⟩
def wik_X12_readCall : List Nat := [901, 968, 969, 970, 971, 972, 973, 974, 4479, 4543, 4607, 4671]
def wrk_X12_readCall : List Nat := []
def wlk_X12_readCall : List Nat := [975]
set_option maxHeartbeats 4000000 in
theorem fk_X12_readCall {l : Launch} {T : Nat → Nat} {cn : Nat} {K N : Nat → Nat} {I0 : cz_I} {R0 : cz_R} {L0 : cz_L} (hW0 : Wf T cn K N I0 R0 0) (gB : cz_B) (gs : Int) (gQ : Nat → Int) {a0 : Nat} (ta0 : T a0 = 15) (hT : ∀ t, R0 a0 5 = some t → Tx I0 t gB) (hN : ∀ b, R0 a0 4 = some b → NmM I0 R0 L0 b gQ) (pre0 : (I0 a0 9).toInt = (tkM gB gs)) (pre1 : (I0 a0 9).toInt ≤ 4) (pre2 : (I0 a0 10).toInt = (tkS gB gs)) (pre3 : (I0 a0 11).toInt = (tkG gB gs)) (pre4 : (AtW ((tkK gB gs)) ((L0 a0 15).toInt) ((tkW gB gs)))) (pre5 : (AtV ((tkK gB gs)) ((I0 a0 12).toInt) ((tkV gB gs)))) (pre6 : (AtN ((tkK gB gs)) ((I0 a0 8).toInt) ((tkN gB gs)))) (pre7 : (I0 a0 7).toInt = (gB.2)) (pre8 : ∀ b1, R0 a0 4 = some b1 → (I0 b1 0).toInt = (gQ 0)) (pre9 : ∀ b1, R0 a0 4 = some b1 → (I0 b1 1).toInt = (gQ 1)) (pre10 : ∀ b1, R0 a0 4 = some b1 → (I0 b1 2).toInt = (gQ 2)) (pre11 : ∀ b1, R0 a0 4 = some b1 → (I0 b1 3).toInt = (gQ 3)) (pre12 : ∀ b1, R0 a0 4 = some b1 → (I0 b1 4).toInt = (gQ 4)) (pre13 : ∀ b1, R0 a0 4 = some b1 → (I0 b1 5).toInt = (gQ 5)) (pre14 : ∀ b1, R0 a0 4 = some b1 → (I0 b1 6).toInt = (gQ 6)) (pre15 : ∀ b1, R0 a0 4 = some b1 → (I0 b1 9).toInt = (gQ 8)) (pre16 : (Q7M ((gQ 0)) ((gQ 7)))) (pre17 : (tkK gB gs) = 1) (pre18 : (srt gB gs) = 8) (nn4 : ∃ b, R0 a0 4 = some b) : ConE l mX12_readCall [.ref a0] cn K N I0 R0 L0 (ca_v (fun cn' K' N' I' R' L' => cn = cn' ∧ K = K' ∧ N = N' ∧ R0 = R' ∧ St T cn K N 0 wik_X12_readCall wrk_X12_readCall I0 R0 I' R0 ∧ (∀ b, R0 a0 4 = some b → FrM R0 b T I0 I') ∧ (∀ dr, R0 a0 4 = some dr → FrO 14 dr T I0 I') ∧ ((((lnF gB gQ gs) = 0) ∧ (∀ b1, R0 a0 4 = some b1 → (I' b1 0).toInt = (lnQ gB gQ gs 0)) ∧ (∀ b1, R0 a0 4 = some b1 → (I' b1 1).toInt = (lnQ gB gQ gs 1)) ∧ (∀ b1, R0 a0 4 = some b1 → (I' b1 2).toInt = (lnQ gB gQ gs 2)) ∧ (∀ b1, R0 a0 4 = some b1 → (I' b1 3).toInt = (lnQ gB gQ gs 3)) ∧ (∀ b1, R0 a0 4 = some b1 → (I' b1 4).toInt = (lnQ gB gQ gs 4)) ∧ (∀ b1, R0 a0 4 = some b1 → (I' b1 5).toInt = (lnQ gB gQ gs 5)) ∧ (∀ b1, R0 a0 4 = some b1 → (I' b1 6).toInt = (lnQ gB gQ gs 6)) ∧ (∀ b1, R0 a0 4 = some b1 → (I' b1 9).toInt = (lnQ gB gQ gs 8)) ∧ ((I' a0 13).toInt = (I0 a0 13).toInt) ∧ ((I' a0 9).toInt = (tkM gB (lnS gB gQ gs))) ∧ ((I' a0 9).toInt ≤ 4) ∧ ((I' a0 10).toInt = (tkS gB (lnS gB gQ gs))) ∧ ((I' a0 11).toInt = (tkG gB (lnS gB gQ gs))) ∧ ((AtW ((tkK gB (lnS gB gQ gs))) ((L' a0 15).toInt) ((tkW gB (lnS gB gQ gs))))) ∧ ((AtV ((tkK gB (lnS gB gQ gs))) ((I' a0 12).toInt) ((tkV gB (lnS gB gQ gs))))) ∧ ((AtN ((tkK gB (lnS gB gQ gs))) ((I' a0 8).toInt) ((tkN gB (lnS gB gQ gs))))) ∧ LgS T wlk_X12_readCall L0 L' ∧ (∀ b, R0 a0 4 = some b → NmM I' R0 L' b (lnQ gB gQ gs)) ∧ (∀ E b, R0 a0 4 = some b → AlM I0 R0 b gQ E → AlM I' R0 b (lnQ gB gQ gs) (lnE gB gQ gs E)) ∧ True) ∨ (((lnF gB gQ gs) ≠ 0) ∧ ((I' a0 9).toInt = 5) ∧ ((I' a0 13).toInt = (lnF gB gQ gs)) ∧ ((I' a0 14).toInt = (lnP gB gQ gs)) ∧ True)) ∧ True)) := by
  refine ConE.of (by decide +kernel) rfl (Nat.le_of_ble_eq_true rfl) rfl (fun X hX hZ hE => ?_)
  subst hX
  have hS0 : St T cn K N 0 wik_X12_readCall wrk_X12_readCall I0 R0 I0 R0 := St.rf0 hW0
  have hL0 : LgS T wlk_X12_readCall L0 L0 := LgS.rf0
  obtain ⟨a1, d2⟩ := nn4
  have ta1 : T a1 = 14 := hW0.rsN ta0 rfl d2
  obtain ⟨v3, c4⟩ : ∃ v, I0 a0 9 = v := ⟨_, rfl⟩
  have b5 := iv15_9 hS0.1 ta0 c4
  have p6 := pre0
  rw [c4] at p6
  have p7 := pre1
  rw [c4] at p7
  obtain ⟨v8, c9⟩ : ∃ v, I0 a0 10 = v := ⟨_, rfl⟩
  have b10 := iv15_10 hS0.1 ta0 c9
  have p11 := pre2
  rw [c9] at p11
  obtain ⟨v12, c13⟩ : ∃ v, I0 a0 11 = v := ⟨_, rfl⟩
  have p14 := pre3
  rw [c13] at p14
  obtain ⟨y15, c16⟩ : ∃ v, L0 a0 15 = v := ⟨_, rfl⟩
  have p17 := pre4
  rw [c16] at p17
  obtain ⟨v18, c19⟩ : ∃ v, I0 a0 12 = v := ⟨_, rfl⟩
  have p20 := pre5
  rw [c19] at p20
  obtain ⟨v21, c22⟩ : ∃ v, I0 a0 8 = v := ⟨_, rfl⟩
  have b23 := iv15_8 hS0.1 ta0 c22
  have p24 := pre6
  rw [c22] at p24
  obtain ⟨v25, c26⟩ : ∃ v, I0 a0 7 = v := ⟨_, rfl⟩
  have b27 := iv15_7 hW0 ta0 c26
  have p28 := pre7
  rw [c26] at p28
  obtain ⟨v29, c30⟩ : ∃ v, I0 a1 0 = v := ⟨_, rfl⟩
  have b31 := iv14_0 hW0 ta1 c30
  have p32 := pre8 _ d2
  rw [c30] at p32
  obtain ⟨v33, c34⟩ : ∃ v, I0 a1 1 = v := ⟨_, rfl⟩
  have b35 := iv14_1 hW0 ta1 c34
  have p36 := pre9 _ d2
  rw [c34] at p36
  obtain ⟨v37, c38⟩ : ∃ v, I0 a1 2 = v := ⟨_, rfl⟩
  have b39 := iv14_2 hW0 ta1 c38
  have p40 := pre10 _ d2
  rw [c38] at p40
  obtain ⟨v41, c42⟩ : ∃ v, I0 a1 3 = v := ⟨_, rfl⟩
  have b43 := iv14_3 hW0 ta1 c42
  have p44 := pre11 _ d2
  rw [c42] at p44
  obtain ⟨v45, c46⟩ : ∃ v, I0 a1 4 = v := ⟨_, rfl⟩
  have b47 := iv14_4 hW0 ta1 c46
  have p48 := pre12 _ d2
  rw [c46] at p48
  obtain ⟨v49, c50⟩ : ∃ v, I0 a1 5 = v := ⟨_, rfl⟩
  have b51 := iv14_5 hS0.1 ta1 c50
  have p52 := pre13 _ d2
  rw [c50] at p52
  obtain ⟨v53, c54⟩ : ∃ v, I0 a1 6 = v := ⟨_, rfl⟩
  have b55 := iv14_6 hW0 ta1 c54
  have p56 := pre14 _ d2
  rw [c54] at p56
  obtain ⟨v57, c58⟩ : ∃ v, I0 a1 9 = v := ⟨_, rfl⟩
  have b59 := iv14_9 hW0 ta1 c58
  have p60 := pre15 _ d2
  rw [c58] at p60
  have p61 := pre16
  have p62 := pre17
  have p63 := pre18
  obtain ⟨v64, c65⟩ : ∃ v, I0 a0 13 = v := ⟨_, rfl⟩
  have hM0 := hN _ d2
  have hO0 : FrO 14 a1 T I0 I0 := FrO.rf
  obtain ⟨a66, d67, ta66⟩ := rf14_26 hW0 ta1
  obtain ⟨a68, d69, ta68⟩ := rf14_27 hW0 ta1
  obtain ⟨a70, d71, ta70⟩ := rf14_28 hW0 ta1
  obtain ⟨a72, d73, ta72⟩ := rf14_29 hW0 ta1
  have hF := lnF_ch gB gQ gs
  have hP := lnP_ch gB gQ gs
  replace hF := hF.neg (by exact om_966a22b9 pre18)
  replace hP := hP.neg (by exact om_966a22b9 pre18)
  replace hF := hF.neg (by exact om_01420888 pre18)
  replace hP := hP.neg (by exact om_01420888 pre18)
  refine tr_aload_n dX12_readCall_0 rfl ?_
  refine tr_aload_n dX12_readCall_1 rfl ?_
  refine tr_getR dX12_readCall_2 fl12_188 (kR15 hS0.1 ta0) d2 ?_
  refine q_getI dX12_readCall_5 fl12_349 (kR14 hS0.1 ta1) c50 ?_
  refine q_bipush dX12_readCall_8 (by decide +kernel) ?_
  intro v74 h75
  refine q_callVv hE (M' := mX12_begins) (as := [_, _]) dX12_readCall_10 lk12_268 inX12_begins seX12_begins myX12_begins (by decide) ⟨by decide, by decide⟩ rfl (kR15 hS0.1 ta0) (Nat.le_of_ble_eq_true rfl) rfl rfl (by decide) (by decide) (fk_X12_begins hS0.1 (gB) (gs) (gQ) ta0 (TxA.kp hT hS0 ta0 rfl rfl rfl (by decide +kernel) (by decide +kernel)) (by (try rw [c4]); first | done | with_reducible assumption | omega) (by (try rw [c4]); first | done | with_reducible assumption | omega) (by (try rw [c9]); first | done | with_reducible assumption | omega) (by (try rw [c13]); first | done | with_reducible assumption | omega) (by (try rw [c16]); first | done | assumption) (by (try rw [c19]); first | done | assumption) (by (try rw [c22]); first | done | assumption) (by (try rw [c26]); first | done | with_reducible assumption | omega) (fun q0 z0 => by obtain rfl := Option.some.inj ((d2).symm.trans z0); (try rw [c30]); first | done | with_reducible assumption | omega) (by first | done | with_reducible assumption | omega) ⟨_, d2⟩) ?_
  rintro cn' K' N' I76 R77 L78 ⟨rfl, rfl, rfl, rfl, g79, dj82, -⟩
  have hM83 : NmM I76 R0 L0 a1 gQ := NmM.kpS hM0 g79 hS0.1 ta1 (by decide +kernel) (by decide +kernel)
  have hS84 := hS0.tr g79 (by decide +kernel) (by decide +kernel)
  have c85 : I76 a1 5 = v49 := (g79.cell ta1 (by decide +kernel)).trans c50
  have hO86 : FrO 14 a1 T I0 I76 := hO0.st g79 (by decide +kernel)
  rcases dj82 with ⟨p87, p88, p89, p90, p91, p92, p93, p94, p95, p96, gl97, -⟩ | ⟨p98, p99, p100, p101, -⟩ | ⟨p102, p103, p104, p105, p106, -⟩
  · skip
    have hL107 := hL0.tr gl97 (by decide +kernel)
    have hM108 : NmM I76 R0 L78 a1 gQ := NmM.kpL hM83 gl97 hS84.1 ta1 (by decide +kernel)
    obtain ⟨v109, c110⟩ : ∃ v, I76 a0 13 = v := ⟨_, rfl⟩
    rw [c110] at p89
    rw [c65] at p89
    obtain ⟨v111, c112⟩ : ∃ v, I76 a0 9 = v := ⟨_, rfl⟩
    have b113 := iv15_9 hS84.1 ta0 c112
    rw [c112] at p90
    rw [c112] at p91
    obtain ⟨v114, c115⟩ : ∃ v, I76 a0 10 = v := ⟨_, rfl⟩
    have b116 := iv15_10 hS84.1 ta0 c115
    rw [c115] at p92
    obtain ⟨v117, c118⟩ : ∃ v, I76 a0 11 = v := ⟨_, rfl⟩
    rw [c118] at p93
    obtain ⟨y119, c120⟩ : ∃ v, L78 a0 15 = v := ⟨_, rfl⟩
    rw [c120] at p94
    obtain ⟨v121, c122⟩ : ∃ v, I76 a0 12 = v := ⟨_, rfl⟩
    rw [c122] at p95
    obtain ⟨v123, c124⟩ : ∃ v, I76 a0 8 = v := ⟨_, rfl⟩
    have b125 := iv15_8 hS84.1 ta0 c124
    rw [c124] at p96
    have p126 := p61
    unfold Q7M at p126
    replace hF := hF.neg (by exact om_45bd3bb7 pre18 b31.2 b31.1 p32 b51.2 b51.1 p52 h75 p87 p88 p126)
    replace hP := hP.neg (by exact om_45bd3bb7 pre18 b31.2 b31.1 p32 b51.2 b51.1 p52 h75 p87 p88 p126)
    replace hF := hF.neg (by exact om_7e43a084 pre18 p88 p126)
    replace hP := hP.neg (by exact om_7e43a084 pre18 p88 p126)
    clear p126
    obtain ⟨w127, w128, w129, w130, w131, w132, w133, w134, w135, w136, w137, w138⟩ := lnl_8 (B := gB) (Q := gQ) (s := gs) (by exact om_ab0fb6d5 p63)
    replace hF := hF.to w127 (caF_ch gB gQ (tkN gB gs))
    replace hP := hP.to w128 (caP_ch gB gQ (tkN gB gs))
    refine tr_aload_n dX12_readCall_13 rfl ?_
    refine q_callVi hE (M' := mX12_isName) (as := []) dX12_readCall_14 lk12_197 inX12_isName seX12_isName myX12_isName (by decide) ⟨by decide, by decide⟩ rfl (kR15 hS84.1 ta0) (Nat.le_of_ble_eq_true rfl) rfl rfl (by decide) (by decide) (fk_X12_isName hS84.1 (gB) ((tkN gB gs)) ta0 (by (try rw [c112]); first | done | with_reducible assumption | omega) (by (try rw [c120]); first | done | assumption)) ?_
    rintro v144 cn' K' N' I139 R140 L141 ⟨rfl, rfl, rfl, rfl, rfl, rfl, h145, dj146, -⟩
    rcases dj146 with ⟨p147, p148, p149, -⟩ | ⟨p150, p151, -⟩
    · skip
      replace hF := hF.neg (by exact om_e4d065d5 p148)
      replace hP := hP.neg (by exact om_e4d065d5 p148)
      refine q_if_ne 25 dX12_readCall_17 (by decide) (fun h152 => ?_) (fun h152 => ?_)
      · skip
        refine tr_aload_n dX12_readCall_25 rfl ?_
        refine tr_getR dX12_readCall_26 fl12_188 (kR15 hS84.1 ta0) d2 ?_
        refine tr_aload_n dX12_readCall_29 rfl ?_
        have p153 := p94 (by exact om_ee8a1e2d p149)
        refine q_getLE dX12_readCall_30 fl12_118 (kR15 hS84.1 ta0) c120 ?_
        refine q_callVi hE (M' := mX11_find) (as := [_]) dX12_readCall_33 lk12_201 inX11_find seX11_find myX11_find (by decide) ⟨by decide, by decide⟩ rfl (kR14 hS84.1 ta1) (Nat.le_of_ble_eq_true rfl) rfl rfl (by decide) (by decide) (fk_X11_find hS84.1 ((tkW gB (tkN gB gs))) ta1 (by first | done | with_reducible assumption | omega)) ?_
        rintro v159 cn' K' N' I154 R155 L156 ⟨rfl, rfl, rfl, rfl, rfl, rfl, h160, rp161, -⟩
        obtain ⟨v164, c165⟩ : ∃ v, I0 a1 7 = v := ⟨_, rfl⟩
        have b166 := iv14_7 hW0 ta1 c165
        have p163 := hS84.1.2.2.2.2.1 a0 ta0 _ d2
        rw [((hS84.cell ta1 (by decide +kernel)).trans c165), ((hS84.cell ta1 (by decide +kernel)).trans c42), ((hS84.cell ta1 (by decide +kernel)).trans c46)] at p163
        have fd162 := fd_told hM108 hS84.1 ta1 rp161 (by rw [((hS84.cell ta1 (by decide +kernel)).trans c165)]; exact om_10c6dfe5 p44 p48 w133 w134 p163)
        rw [((hS84.cell ta1 (by decide +kernel)).trans c165)] at fd162
        refine tr_istore_n dX12_readCall_36 (by decide) (by decide) ?_
        refine tr_iload_n dX12_readCall_37 rfl ?_
        refine q_iconst dX12_readCall_38 (by decide) ?_
        intro v167 h168
        refine q_icmp_eq 55 dX12_readCall_39 (by decide) (fun h169 => ?_) (fun h169 => ?_)
        · skip
          replace hF := hF.pos (by exact om_500a6f2f fd162 h168 h169)
          replace hP := hP.pos (by exact om_500a6f2f fd162 h168 h169)
          refine tr_aload_n dX12_readCall_55 rfl ?_
          refine q_iconst dX12_readCall_56 (by decide) ?_
          intro v170 h171
          refine q_callVv hE (M' := mX12_flaw) (as := [_]) dX12_readCall_57 lk12_145 inX12_flaw seX12_flaw myX12_flaw (by decide) ⟨by decide, by decide⟩ rfl (kR15 hS84.1 ta0) (Nat.le_of_ble_eq_true rfl) rfl rfl (by decide) (by decide) (fk_X12_flaw hS84.1  ta0 (by exact om_18f49b90 h171) (by (try rw [c112]); first | done | with_reducible assumption | exact om_f9de8b4b p91 p90 b113.1)) ?_
          rintro cn' K' N' I172 R173 L174 ⟨rfl, rfl, rfl, rfl, rfl, g175, p178, p179, p180, -⟩
          have hM181 : NmM I172 R0 L78 a1 gQ := NmM.kpS hM108 g175 hS84.1 ta1 (by decide +kernel) (by decide +kernel)
          have hS182 := hS84.tr g175 (by decide +kernel) (by decide +kernel)
          have c183 : I172 a1 5 = v49 := (g175.cell ta1 (by decide +kernel)).trans c85
          have c184 : I172 a0 10 = v114 := (g175.cell ta0 (by decide +kernel)).trans c115
          have c185 : I172 a0 11 = v117 := (g175.cell ta0 (by decide +kernel)).trans c118
          have c186 : I172 a0 12 = v121 := (g175.cell ta0 (by decide +kernel)).trans c122
          have c187 : I172 a0 8 = v123 := (g175.cell ta0 (by decide +kernel)).trans c124
          have hO188 : FrO 14 a1 T I0 I172 := hO86.st g175 (by decide +kernel)
          obtain ⟨v189, c190⟩ : ∃ v, I172 a0 9 = v := ⟨_, rfl⟩
          have b191 := iv15_9 hS182.1 ta0 c190
          rw [c190] at p178
          obtain ⟨v192, c193⟩ : ∃ v, I172 a0 13 = v := ⟨_, rfl⟩
          rw [c193] at p179
          obtain ⟨v194, c195⟩ : ∃ v, I172 a0 14 = v := ⟨_, rfl⟩
          rw [c195] at p180
          rw [c115] at p180
          refine sf_oC60 hE hZ hS182.1 (gB) ta0 (by (try rw [c190]); first | done | with_reducible assumption | omega) ⟨_, d2⟩ rfl rfl ?_
          rintro I196 R197 L198 ⟨g199, p200, p201, p202, rp203, -⟩
          obtain rfl : R0 = R197 := funext fun a => funext fun j => (g199.2.2 a j (wm_no rfl)).symm
          have hS204 := hS182.tr g199 (by decide +kernel) (by decide +kernel)
          have c205 : I196 a1 5 = v49 := (g199.cell ta1 (by decide +kernel)).trans c183
          have hO206 : FrO 14 a1 T I0 I196 := hO188.st g199 (by decide +kernel)
          obtain ⟨v207, c208⟩ : ∃ v, I196 a0 9 = v := ⟨_, rfl⟩
          have b209 := iv15_9 hS204.1 ta0 c208
          rw [c208] at p200
          obtain ⟨v210, c211⟩ : ∃ v, I196 a0 13 = v := ⟨_, rfl⟩
          rw [c211] at p201
          rw [c193] at p201
          obtain ⟨v212, c213⟩ : ∃ v, I196 a0 14 = v := ⟨_, rfl⟩
          rw [c213] at p202
          rw [c195] at p202
          have eF := hF.eq
          have eP := hP.eq
          obtain ⟨v214, c215⟩ : ∃ v, I196 a0 10 = v := ⟨_, rfl⟩
          have b216 := iv15_10 hS204.1 ta0 c215
          obtain ⟨v217, c218⟩ : ∃ v, I196 a0 11 = v := ⟨_, rfl⟩
          obtain ⟨y219, c220⟩ : ∃ v, L198 a0 15 = v := ⟨_, rfl⟩
          obtain ⟨v221, c222⟩ : ∃ v, I196 a0 12 = v := ⟨_, rfl⟩
          obtain ⟨v223, c224⟩ : ∃ v, I196 a0 8 = v := ⟨_, rfl⟩
          have b225 := iv15_8 hS204.1 ta0 c224
          exact ⟨rfl, rfl, rfl, rfl, rfl, hS204, (fun b hb => (Option.some.inj (d2.symm.trans hb)) ▸ ((((FrM.rf (R := R0) (b := a1) (T := T)).st g79 (by decide +kernel)).st g175 (by decide +kernel)).st g199 (by decide +kernel))), (fun dr hd => (Option.some.inj (d2.symm.trans hd)) ▸ hO206), (Or.inr (⟨(by first | done | with_reducible assumption | exact om_ecb25a59 eF), (by (try rw [c208]); first | done | with_reducible assumption | omega), (by (try rw [c211]); first | done | with_reducible assumption | exact om_56a31c7f h171 p179 p201 eF), (by (try rw [c213]); first | done | with_reducible assumption | exact om_3efc13ef p92 p180 p202 eP), trivial⟩)), trivial⟩
        · skip
          refine tr_aload_n dX12_readCall_42 rfl ?_
          refine tr_getR dX12_readCall_43 fl12_188 (kR15 hS84.1 ta0) d2 ?_
          obtain ⟨a226, d227, ta226⟩ := rf14_31 hW0 ta1
          refine tr_getR dX12_readCall_46 fl12_212 (kR14 hS84.1 ta1) d227 ?_
          refine tr_iload_n dX12_readCall_49 rfl ?_
          refine q_iald dX12_readCall_50 (kR74 hS84.1 ta226) (ti_in (nR74 hS84.1 ta226) (by exact om_3fddbd34 h160.2 h160.1 h168 h169) (by exact om_ce29e679 h160.2 h160.1)) ?_
          intro v228 c229
          have fs230 := fd_sort hM108 hS84.1 ta1 rp161 (by rw [((hS84.cell ta1 (by decide +kernel)).trans c165)]; exact om_10c6dfe5 p44 p48 w133 w134 p163) (by exact om_3fddbd34 h160.2 h160.1 h168 h169) d227 c229
          refine q_iconst dX12_readCall_51 (by decide) ?_
          intro v231 h232
          refine q_icmp_eq 60 dX12_readCall_52 (by decide) (fun h233 => ?_) (fun h233 => ?_)
          · skip
            replace hF := hF.neg (by exact om_ce6a9429 fs230 h232 h233)
            replace hP := hP.neg (by exact om_ce6a9429 fs230 h232 h233)
            refine tr_aload_n dX12_readCall_60 rfl ?_
            refine q_getI dX12_readCall_61 fl12_99 (kR15 hS84.1 ta0) c112 ?_
            refine q_iconst dX12_readCall_64 (by decide) ?_
            intro v234 h235
            refine q_icmp_ne 72 dX12_readCall_65 (by decide) (fun h236 => ?_) (fun h236 => ?_)
            · skip
              refine tr_aload_n dX12_readCall_72 rfl ?_
              refine tr_getR dX12_readCall_73 fl12_188 (kR15 hS84.1 ta0) d2 ?_
              obtain ⟨a237, d238, ta237⟩ := rf14_32 hW0 ta1
              refine tr_getR dX12_readCall_76 fl12_215 (kR14 hS84.1 ta1) d238 ?_
              refine tr_iload_n dX12_readCall_79 rfl ?_
              refine q_iald dX12_readCall_80 (kR75 hS84.1 ta237) (ti_in (nR75 hS84.1 ta237) (by exact om_85fc2745 p91 p90 b113.1 h160.2 h160.1 h168 h169 fs230 h232 h233 h235 h236) (by exact om_ce29e679 h160.2 h160.1)) ?_
              intro v239 c240
              have fn241 := fd_num hM108 hS84.1 ta1 rp161 (by rw [((hS84.cell ta1 (by decide +kernel)).trans c165)]; exact om_10c6dfe5 p44 p48 w133 w134 p163) (by exact om_85fc2745 p91 p90 b113.1 h160.2 h160.1 h168 h169 fs230 h232 h233 h235 h236) (by exact om_c1bed377 p91 p90 b113.1 fs230 h232 h233 h235 h236) d238 c240
              refine tr_istore_n dX12_readCall_81 (by decide) (by decide) ?_
              refine tr_aload_n dX12_readCall_82 rfl ?_
              have p242 := p96 (by exact om_e0d38eff p149)
              refine q_callVv hE (M' := mX12_goesOn) (as := []) dX12_readCall_83 lk12_142 inX12_goesOn seX12_goesOn myX12_goesOn (by decide) ⟨by decide, by decide⟩ rfl (kR15 hS84.1 ta0) (Nat.le_of_ble_eq_true rfl) rfl rfl (by decide) (by decide) (fk_X12_goesOn hS84.1 (gB) ((tkN gB (tkN gB gs))) ta0 (TxA.kp hT hS84 ta0 rfl rfl rfl (by decide +kernel) (by decide +kernel)) (by (try rw [c124]); first | done | with_reducible assumption | omega) (by (try rw [((hS84.cell ta0 (by decide +kernel)).trans c26)]); first | done | with_reducible assumption | omega) (by (try rw [c112]); first | done | with_reducible assumption | exact om_f9de8b4b p91 p90 b113.1)) ?_
              rintro cn' K' N' I243 R244 L245 ⟨rfl, rfl, rfl, rfl, g246, gl247, p249, p250, p251, p252, p253, p254, p255, -⟩
              have hM256 : NmM I243 R0 L78 a1 gQ := NmM.kpS hM108 g246 hS84.1 ta1 (by decide +kernel) (by decide +kernel)
              have hS257 := hS84.tr g246 (by decide +kernel) (by decide +kernel)
              have c258 : I243 a1 5 = v49 := (g246.cell ta1 (by decide +kernel)).trans c85
              have c259 : I243 a0 13 = v109 := (g246.cell ta0 (by decide +kernel)).trans c110
              have hO260 : FrO 14 a1 T I0 I243 := hO86.st g246 (by decide +kernel)
              have hL261 := hL107.tr gl247 (by decide +kernel)
              have hM262 : NmM I243 R0 L245 a1 gQ := NmM.kpL hM256 gl247 hS257.1 ta1 (by decide +kernel)
              obtain ⟨v263, c264⟩ : ∃ v, I243 a0 9 = v := ⟨_, rfl⟩
              have b265 := iv15_9 hS257.1 ta0 c264
              rw [c264] at p249
              rw [c264] at p250
              obtain ⟨v266, c267⟩ : ∃ v, I243 a0 10 = v := ⟨_, rfl⟩
              have b268 := iv15_10 hS257.1 ta0 c267
              rw [c267] at p251
              obtain ⟨v269, c270⟩ : ∃ v, I243 a0 11 = v := ⟨_, rfl⟩
              rw [c270] at p252
              obtain ⟨y271, c272⟩ : ∃ v, L245 a0 15 = v := ⟨_, rfl⟩
              rw [c272] at p253
              obtain ⟨v273, c274⟩ : ∃ v, I243 a0 12 = v := ⟨_, rfl⟩
              rw [c274] at p254
              obtain ⟨v275, c276⟩ : ∃ v, I243 a0 8 = v := ⟨_, rfl⟩
              have b277 := iv15_8 hS257.1 ta0 c276
              rw [c276] at p255
              refine tr_aload_n dX12_readCall_86 rfl ?_
              refine tr_ldcwS dX12_readCall_87 ld12_352 ?_
              refine q_iconst dX12_readCall_90 (by decide) ?_
              intro v278 h279
              refine tr_aload_n dX12_readCall_91 rfl ?_
              refine tr_getR dX12_readCall_92 fl12_188 (kR15 hS257.1 ta0) d2 ?_
              refine q_getI dX12_readCall_95 fl12_192 (kR14 hS257.1 ta1) ((hS257.cell ta1 (by decide +kernel)).trans c30) ?_
              refine q_iconst dX12_readCall_98 (by decide) ?_
              intro v280 h281
              refine q_isubE dX12_readCall_99 (by intro j1 j2 j3 j4; exact om_6479810f b31.2 b31.1 p32 w130 h281) ?_
              intro v282 h283
              refine q_callVi hE (M' := mX12_readPart) (as := [_, _, _]) dX12_readCall_100 lk12_249 inX12_readPart seX12_readPart myX12_readPart (by decide) ⟨by decide, by decide⟩ rfl (kR15 hS257.1 ta0) (Nat.le_of_ble_eq_true rfl) rfl rfl (by decide) (by decide) (fk_X12_readPart hS257.1 (gB) ((tkN gB (tkN gB gs))) ta0 (by decide) (TxA.kp hT hS257 ta0 rfl rfl rfl (by decide +kernel) (by decide +kernel)) (by (try rw [c264]); first | done | with_reducible assumption | omega) (by (try rw [c264]); first | done | with_reducible assumption | omega) (by (try rw [c267]); first | done | with_reducible assumption | omega) (by (try rw [c270]); first | done | with_reducible assumption | omega) (by (try rw [c272]); first | done | assumption) (by (try rw [c274]); first | done | assumption) (by (try rw [c276]); first | done | assumption) (by (try rw [((hS257.cell ta0 (by decide +kernel)).trans c26)]); first | done | with_reducible assumption | omega)) ?_
              rintro v289 cn' K' N' I284 R285 L286 ⟨rfl, rfl, rfl, rfl, g287, dj290, -⟩
              (try rw [pk_2] at dj290)
              have hM291 : NmM I284 R0 L245 a1 gQ := NmM.kpS hM262 g287 hS257.1 ta1 (by decide +kernel) (by decide +kernel)
              have hS292 := hS257.tr g287 (by decide +kernel) (by decide +kernel)
              have c293 : I284 a1 5 = v49 := (g287.cell ta1 (by decide +kernel)).trans c258
              have hO294 : FrO 14 a1 T I0 I284 := hO260.st g287 (by decide +kernel)
              rcases dj290 with ⟨p295, p296, p297, p298, p299, p300, p301, p302, p303, p304, p305, p306, p307, p308, gl309, -⟩ | ⟨p310, p311, p312, p313, p314, -⟩ | ⟨p315, p316, p317, p318, p319, p320, p321, -⟩ | ⟨p322, p323, p324, p325, p326, p327, p328, p329, -⟩
              · skip
                have hL330 := hL261.tr gl309 (by decide +kernel)
                have hM331 : NmM I284 R0 L286 a1 gQ := NmM.kpL hM291 gl309 hS292.1 ta1 (by decide +kernel)
                obtain ⟨v332, c333⟩ : ∃ v, I284 a0 13 = v := ⟨_, rfl⟩
                rw [c333] at p301
                rw [c259] at p301
                obtain ⟨v334, c335⟩ : ∃ v, I284 a0 9 = v := ⟨_, rfl⟩
                have b336 := iv15_9 hS292.1 ta0 c335
                rw [c335] at p302
                rw [c335] at p303
                obtain ⟨v337, c338⟩ : ∃ v, I284 a0 10 = v := ⟨_, rfl⟩
                have b339 := iv15_10 hS292.1 ta0 c338
                rw [c338] at p304
                obtain ⟨v340, c341⟩ : ∃ v, I284 a0 11 = v := ⟨_, rfl⟩
                rw [c341] at p305
                obtain ⟨y342, c343⟩ : ∃ v, L286 a0 15 = v := ⟨_, rfl⟩
                rw [c343] at p306
                obtain ⟨v344, c345⟩ : ∃ v, I284 a0 12 = v := ⟨_, rfl⟩
                rw [c345] at p307
                obtain ⟨v346, c347⟩ : ∃ v, I284 a0 8 = v := ⟨_, rfl⟩
                have b348 := iv15_8 hS292.1 ta0 c347
                rw [c347] at p308
                replace hF := hF.neg (by exact om_04eb041f p296 p297)
                replace hP := hP.neg (by exact om_04eb041f p296 p297)
                replace hF := hF.neg (by exact om_10ed11b5 p298)
                replace hP := hP.neg (by exact om_10ed11b5 p298)
                replace hF := hF.neg (by exact om_4062d996 p32 w130 h279 h281 h283 p299 p300)
                replace hP := hP.neg (by exact om_4062d996 p32 w130 h279 h281 h283 p299 p300)
                refine tr_istore_n dX12_readCall_103 (by decide) (by decide) ?_
                refine tr_aload_n dX12_readCall_104 rfl ?_
                refine tr_ldcwS dX12_readCall_105 ld12_354 ?_
                refine q_iconst dX12_readCall_108 (by decide) ?_
                intro v349 h350
                refine q_bipush dX12_readCall_109 (by decide +kernel) ?_
                intro v351 h352
                refine q_callVi hE (M' := mX12_readPart) (as := [_, _, _]) dX12_readCall_111 lk12_249 inX12_readPart seX12_readPart myX12_readPart (by decide) ⟨by decide, by decide⟩ rfl (kR15 hS292.1 ta0) (Nat.le_of_ble_eq_true rfl) rfl rfl (by decide) (by decide) (fk_X12_readPart hS292.1 (gB) ((tkN gB (tkN gB (tkN gB (tkN gB gs))))) ta0 (by decide) (TxA.kp hT hS292 ta0 rfl rfl rfl (by decide +kernel) (by decide +kernel)) (by (try rw [c335]); first | done | with_reducible assumption | omega) (by (try rw [c335]); first | done | with_reducible assumption | omega) (by (try rw [c338]); first | done | with_reducible assumption | omega) (by (try rw [c341]); first | done | with_reducible assumption | omega) (by (try rw [c343]); first | done | assumption) (by (try rw [c345]); first | done | assumption) (by (try rw [c347]); first | done | assumption) (by (try rw [((hS292.cell ta0 (by decide +kernel)).trans c26)]); first | done | with_reducible assumption | omega)) ?_
                rintro v358 cn' K' N' I353 R354 L355 ⟨rfl, rfl, rfl, rfl, g356, dj359, -⟩
                (try rw [pk_12] at dj359)
                have hM360 : NmM I353 R0 L286 a1 gQ := NmM.kpS hM331 g356 hS292.1 ta1 (by decide +kernel) (by decide +kernel)
                have hS361 := hS292.tr g356 (by decide +kernel) (by decide +kernel)
                have c362 : I353 a1 5 = v49 := (g356.cell ta1 (by decide +kernel)).trans c293
                have hO363 : FrO 14 a1 T I0 I353 := hO294.st g356 (by decide +kernel)
                rcases dj359 with ⟨p364, p365, p366, p367, p368, p369, p370, p371, p372, p373, p374, p375, p376, p377, gl378, -⟩ | ⟨p379, p380, p381, p382, p383, -⟩ | ⟨p384, p385, p386, p387, p388, p389, p390, -⟩ | ⟨p391, p392, p393, p394, p395, p396, p397, p398, -⟩
                · skip
                  have hL399 := hL330.tr gl378 (by decide +kernel)
                  have hM400 : NmM I353 R0 L355 a1 gQ := NmM.kpL hM360 gl378 hS361.1 ta1 (by decide +kernel)
                  obtain ⟨v401, c402⟩ : ∃ v, I353 a0 13 = v := ⟨_, rfl⟩
                  rw [c402] at p370
                  rw [c333] at p370
                  obtain ⟨v403, c404⟩ : ∃ v, I353 a0 9 = v := ⟨_, rfl⟩
                  have b405 := iv15_9 hS361.1 ta0 c404
                  rw [c404] at p371
                  rw [c404] at p372
                  obtain ⟨v406, c407⟩ : ∃ v, I353 a0 10 = v := ⟨_, rfl⟩
                  have b408 := iv15_10 hS361.1 ta0 c407
                  rw [c407] at p373
                  obtain ⟨v409, c410⟩ : ∃ v, I353 a0 11 = v := ⟨_, rfl⟩
                  rw [c410] at p374
                  obtain ⟨y411, c412⟩ : ∃ v, L355 a0 15 = v := ⟨_, rfl⟩
                  rw [c412] at p375
                  obtain ⟨v413, c414⟩ : ∃ v, I353 a0 12 = v := ⟨_, rfl⟩
                  rw [c414] at p376
                  obtain ⟨v415, c416⟩ : ∃ v, I353 a0 8 = v := ⟨_, rfl⟩
                  have b417 := iv15_8 hS361.1 ta0 c416
                  rw [c416] at p377
                  replace hF := hF.neg (by exact om_9e763d12 p365 p366)
                  replace hP := hP.neg (by exact om_9e763d12 p365 p366)
                  replace hF := hF.neg (by exact om_10ed11b5 p367)
                  replace hP := hP.neg (by exact om_10ed11b5 p367)
                  replace hF := hF.neg (by exact om_431b39b1 h350 h352 p368 p369)
                  replace hP := hP.neg (by exact om_431b39b1 h350 h352 p368 p369)
                  refine tr_istore dX12_readCall_114 (by decide) (by decide) ?_
                  refine tr_aload_n dX12_readCall_116 rfl ?_
                  refine tr_ldcwS dX12_readCall_117 ld12_356 ?_
                  refine q_iconst dX12_readCall_120 (by decide) ?_
                  intro v418 h419
                  refine q_bipush dX12_readCall_121 (by decide +kernel) ?_
                  intro v420 h421
                  refine q_callVi hE (M' := mX12_readPart) (as := [_, _, _]) dX12_readCall_123 lk12_249 inX12_readPart seX12_readPart myX12_readPart (by decide) ⟨by decide, by decide⟩ rfl (kR15 hS361.1 ta0) (Nat.le_of_ble_eq_true rfl) rfl rfl (by decide) (by decide) (fk_X12_readPart hS361.1 (gB) ((tkN gB (tkN gB (tkN gB (tkN gB (tkN gB (tkN gB gs))))))) ta0 (by decide) (TxA.kp hT hS361 ta0 rfl rfl rfl (by decide +kernel) (by decide +kernel)) (by (try rw [c404]); first | done | with_reducible assumption | omega) (by (try rw [c404]); first | done | with_reducible assumption | omega) (by (try rw [c407]); first | done | with_reducible assumption | omega) (by (try rw [c410]); first | done | with_reducible assumption | omega) (by (try rw [c412]); first | done | assumption) (by (try rw [c414]); first | done | assumption) (by (try rw [c416]); first | done | assumption) (by (try rw [((hS361.cell ta0 (by decide +kernel)).trans c26)]); first | done | with_reducible assumption | omega)) ?_
                  rintro v427 cn' K' N' I422 R423 L424 ⟨rfl, rfl, rfl, rfl, g425, dj428, -⟩
                  (try rw [pk_8] at dj428)
                  have hM429 : NmM I422 R0 L355 a1 gQ := NmM.kpS hM400 g425 hS361.1 ta1 (by decide +kernel) (by decide +kernel)
                  have hS430 := hS361.tr g425 (by decide +kernel) (by decide +kernel)
                  have c431 : I422 a1 5 = v49 := (g425.cell ta1 (by decide +kernel)).trans c362
                  have hO432 : FrO 14 a1 T I0 I422 := hO363.st g425 (by decide +kernel)
                  rcases dj428 with ⟨p433, p434, p435, p436, p437, p438, p439, p440, p441, p442, p443, p444, p445, p446, gl447, -⟩ | ⟨p448, p449, p450, p451, p452, -⟩ | ⟨p453, p454, p455, p456, p457, p458, p459, -⟩ | ⟨p460, p461, p462, p463, p464, p465, p466, p467, -⟩
                  · skip
                    have hL468 := hL399.tr gl447 (by decide +kernel)
                    have hM469 : NmM I422 R0 L424 a1 gQ := NmM.kpL hM429 gl447 hS430.1 ta1 (by decide +kernel)
                    obtain ⟨v470, c471⟩ : ∃ v, I422 a0 13 = v := ⟨_, rfl⟩
                    rw [c471] at p439
                    rw [c402] at p439
                    obtain ⟨v472, c473⟩ : ∃ v, I422 a0 9 = v := ⟨_, rfl⟩
                    have b474 := iv15_9 hS430.1 ta0 c473
                    rw [c473] at p440
                    rw [c473] at p441
                    obtain ⟨v475, c476⟩ : ∃ v, I422 a0 10 = v := ⟨_, rfl⟩
                    have b477 := iv15_10 hS430.1 ta0 c476
                    rw [c476] at p442
                    obtain ⟨v478, c479⟩ : ∃ v, I422 a0 11 = v := ⟨_, rfl⟩
                    rw [c479] at p443
                    obtain ⟨y480, c481⟩ : ∃ v, L424 a0 15 = v := ⟨_, rfl⟩
                    rw [c481] at p444
                    obtain ⟨v482, c483⟩ : ∃ v, I422 a0 12 = v := ⟨_, rfl⟩
                    rw [c483] at p445
                    obtain ⟨v484, c485⟩ : ∃ v, I422 a0 8 = v := ⟨_, rfl⟩
                    have b486 := iv15_8 hS430.1 ta0 c485
                    rw [c485] at p446
                    replace hF := hF.neg (by exact om_95feeb19 p434 p435)
                    replace hP := hP.neg (by exact om_95feeb19 p434 p435)
                    replace hF := hF.neg (by exact om_10ed11b5 p436)
                    replace hP := hP.neg (by exact om_10ed11b5 p436)
                    replace hF := hF.neg (by exact om_6dc00766 h419 h421 p437 p438)
                    replace hP := hP.neg (by exact om_6dc00766 h419 h421 p437 p438)
                    refine tr_istore dX12_readCall_126 (by decide) (by decide) ?_
                    refine tr_aload_n dX12_readCall_128 rfl ?_
                    refine q_getI dX12_readCall_129 fl12_99 (kR15 hS430.1 ta0) c473 ?_
                    refine q_iconst dX12_readCall_132 (by decide) ?_
                    intro v487 h488
                    refine q_icmp_ne 137 dX12_readCall_133 (by decide) (fun h489 => ?_) (fun h489 => ?_)
                    · skip
                      refine tr_aload_n dX12_readCall_137 rfl ?_
                      refine tr_getR dX12_readCall_138 fl12_188 (kR15 hS430.1 ta0) d2 ?_
                      refine tr_getR dX12_readCall_141 fl12_358 (kR14 hS430.1 ta1) d67 ?_
                      refine tr_aload_n dX12_readCall_144 rfl ?_
                      refine tr_getR dX12_readCall_145 fl12_188 (kR15 hS430.1 ta0) d2 ?_
                      refine q_getI dX12_readCall_148 fl12_349 (kR14 hS430.1 ta1) c431 ?_
                      refine tr_iload_n dX12_readCall_151 rfl ?_
                      refine q_iast dX12_readCall_152 (kR69 hS430.1 ta66) (ti_in (nR69 hS430.1 ta66) (by exact om_54ee00be b51.2 b51.1 p52 w135) (by exact om_3680079f b31.2 b31.1 p32 b51.2 b51.1 p52 h75 p87 p88 p91 p90 b113.1 w130 w135 p147 h152 h160.2 h160.1 fd162 h168 h169 fs230 h232 h233 h235 h236 h281 h283 p441 p440 b474.1 h488 h489)) hS430 ta66 (iokF rfl) rfl (by rfl) ?_
                      intro I490 hS491 e493 f492
                      have c494 : I490 a1 5 = v49 := (f492 _ _ (fun q => by have z := ta1; rw [q.1, ta66] at z; exact absurd z (by decide))).trans c431
                      have c495 : I490 a0 13 = v470 := (f492 _ _ (fun q => by have z := ta0; rw [q.1, ta66] at z; exact absurd z (by decide))).trans c471
                      have c496 : I490 a0 9 = v472 := (f492 _ _ (fun q => by have z := ta0; rw [q.1, ta66] at z; exact absurd z (by decide))).trans c473
                      have c497 : I490 a0 10 = v475 := (f492 _ _ (fun q => by have z := ta0; rw [q.1, ta66] at z; exact absurd z (by decide))).trans c476
                      have c498 : I490 a0 11 = v478 := (f492 _ _ (fun q => by have z := ta0; rw [q.1, ta66] at z; exact absurd z (by decide))).trans c479
                      have c499 : I490 a0 12 = v482 := (f492 _ _ (fun q => by have z := ta0; rw [q.1, ta66] at z; exact absurd z (by decide))).trans c483
                      have c500 : I490 a0 8 = v484 := (f492 _ _ (fun q => by have z := ta0; rw [q.1, ta66] at z; exact absurd z (by decide))).trans c485
                      have hO501 : FrO 14 a1 T I0 I490 := hO432.put f492 ta66 (Or.inl (by decide))
                      have hM502 : NmM I490 R0 L424 a1 gQ := NmM.kp1 hM469 f492 ta66 rfl rfl hS430.1 ta1
                      refine tr_aload_n dX12_readCall_153 rfl ?_
                      refine tr_getR dX12_readCall_154 fl12_188 (kR15 hS491.1 ta0) d2 ?_
                      refine tr_getR dX12_readCall_157 fl12_361 (kR14 hS491.1 ta1) d69 ?_
                      refine tr_aload_n dX12_readCall_160 rfl ?_
                      refine tr_getR dX12_readCall_161 fl12_188 (kR15 hS491.1 ta0) d2 ?_
                      refine q_getI dX12_readCall_164 fl12_349 (kR14 hS491.1 ta1) c494 ?_
                      refine tr_iload_n dX12_readCall_167 rfl ?_
                      refine q_iast dX12_readCall_168 (kR70 hS491.1 ta68) (ti_in (nR70 hS491.1 ta68) (by exact om_54ee00be b51.2 b51.1 p52 w135) (by exact om_3680079f b31.2 b31.1 p32 b51.2 b51.1 p52 h75 p87 p88 p91 p90 b113.1 w130 w135 p147 h152 h160.2 h160.1 fd162 h168 h169 fs230 h232 h233 h235 h236 h281 h283 p441 p440 b474.1 h488 h489)) hS491 ta68 (iokF rfl) rfl (by rfl) ?_
                      intro I503 hS504 e506 f505
                      have c507 : I503 a1 5 = v49 := (f505 _ _ (fun q => by have z := ta1; rw [q.1, ta68] at z; exact absurd z (by decide))).trans c494
                      have c508 : I503 a0 13 = v470 := (f505 _ _ (fun q => by have z := ta0; rw [q.1, ta68] at z; exact absurd z (by decide))).trans c495
                      have c509 : I503 a0 9 = v472 := (f505 _ _ (fun q => by have z := ta0; rw [q.1, ta68] at z; exact absurd z (by decide))).trans c496
                      have c510 : I503 a0 10 = v475 := (f505 _ _ (fun q => by have z := ta0; rw [q.1, ta68] at z; exact absurd z (by decide))).trans c497
                      have c511 : I503 a0 11 = v478 := (f505 _ _ (fun q => by have z := ta0; rw [q.1, ta68] at z; exact absurd z (by decide))).trans c498
                      have c512 : I503 a0 12 = v482 := (f505 _ _ (fun q => by have z := ta0; rw [q.1, ta68] at z; exact absurd z (by decide))).trans c499
                      have c513 : I503 a0 8 = v484 := (f505 _ _ (fun q => by have z := ta0; rw [q.1, ta68] at z; exact absurd z (by decide))).trans c500
                      have hO514 : FrO 14 a1 T I0 I503 := hO501.put f505 ta68 (Or.inl (by decide))
                      have hM515 : NmM I503 R0 L424 a1 gQ := NmM.kp1 hM502 f505 ta68 rfl rfl hS491.1 ta1
                      refine tr_aload_n dX12_readCall_169 rfl ?_
                      refine tr_getR dX12_readCall_170 fl12_188 (kR15 hS504.1 ta0) d2 ?_
                      refine tr_getR dX12_readCall_173 fl12_364 (kR14 hS504.1 ta1) d71 ?_
                      refine tr_aload_n dX12_readCall_176 rfl ?_
                      refine tr_getR dX12_readCall_177 fl12_188 (kR15 hS504.1 ta0) d2 ?_
                      refine q_getI dX12_readCall_180 fl12_349 (kR14 hS504.1 ta1) c507 ?_
                      refine tr_iload dX12_readCall_183 rfl ?_
                      refine q_iast dX12_readCall_185 (kR71 hS504.1 ta70) (ti_in (nR71 hS504.1 ta70) (by exact om_54ee00be b51.2 b51.1 p52 w135) (by exact om_3680079f b31.2 b31.1 p32 b51.2 b51.1 p52 h75 p87 p88 p91 p90 b113.1 w130 w135 p147 h152 h160.2 h160.1 fd162 h168 h169 fs230 h232 h233 h235 h236 h281 h283 p441 p440 b474.1 h488 h489)) hS504 ta70 (iokF rfl) rfl (by rfl) ?_
                      intro I516 hS517 e519 f518
                      have c520 : I516 a1 5 = v49 := (f518 _ _ (fun q => by have z := ta1; rw [q.1, ta70] at z; exact absurd z (by decide))).trans c507
                      have c521 : I516 a0 13 = v470 := (f518 _ _ (fun q => by have z := ta0; rw [q.1, ta70] at z; exact absurd z (by decide))).trans c508
                      have c522 : I516 a0 9 = v472 := (f518 _ _ (fun q => by have z := ta0; rw [q.1, ta70] at z; exact absurd z (by decide))).trans c509
                      have c523 : I516 a0 10 = v475 := (f518 _ _ (fun q => by have z := ta0; rw [q.1, ta70] at z; exact absurd z (by decide))).trans c510
                      have c524 : I516 a0 11 = v478 := (f518 _ _ (fun q => by have z := ta0; rw [q.1, ta70] at z; exact absurd z (by decide))).trans c511
                      have c525 : I516 a0 12 = v482 := (f518 _ _ (fun q => by have z := ta0; rw [q.1, ta70] at z; exact absurd z (by decide))).trans c512
                      have c526 : I516 a0 8 = v484 := (f518 _ _ (fun q => by have z := ta0; rw [q.1, ta70] at z; exact absurd z (by decide))).trans c513
                      have hO527 : FrO 14 a1 T I0 I516 := hO514.put f518 ta70 (Or.inl (by decide))
                      have hM528 : NmM I516 R0 L424 a1 gQ := NmM.kp1 hM515 f518 ta70 rfl rfl hS504.1 ta1
                      refine tr_aload_n dX12_readCall_186 rfl ?_
                      refine tr_getR dX12_readCall_187 fl12_188 (kR15 hS517.1 ta0) d2 ?_
                      refine tr_getR dX12_readCall_190 fl12_367 (kR14 hS517.1 ta1) d73 ?_
                      refine tr_aload_n dX12_readCall_193 rfl ?_
                      refine tr_getR dX12_readCall_194 fl12_188 (kR15 hS517.1 ta0) d2 ?_
                      refine q_getI dX12_readCall_197 fl12_349 (kR14 hS517.1 ta1) c520 ?_
                      refine tr_iload dX12_readCall_200 rfl ?_
                      refine q_iast dX12_readCall_202 (kR72 hS517.1 ta72) (ti_in (nR72 hS517.1 ta72) (by exact om_54ee00be b51.2 b51.1 p52 w135) (by exact om_3680079f b31.2 b31.1 p32 b51.2 b51.1 p52 h75 p87 p88 p91 p90 b113.1 w130 w135 p147 h152 h160.2 h160.1 fd162 h168 h169 fs230 h232 h233 h235 h236 h281 h283 p441 p440 b474.1 h488 h489)) hS517 ta72 (iokF rfl) rfl (by rfl) ?_
                      intro I529 hS530 e532 f531
                      have c533 : I529 a1 5 = v49 := (f531 _ _ (fun q => by have z := ta1; rw [q.1, ta72] at z; exact absurd z (by decide))).trans c520
                      have c534 : I529 a0 13 = v470 := (f531 _ _ (fun q => by have z := ta0; rw [q.1, ta72] at z; exact absurd z (by decide))).trans c521
                      have c535 : I529 a0 9 = v472 := (f531 _ _ (fun q => by have z := ta0; rw [q.1, ta72] at z; exact absurd z (by decide))).trans c522
                      have c536 : I529 a0 10 = v475 := (f531 _ _ (fun q => by have z := ta0; rw [q.1, ta72] at z; exact absurd z (by decide))).trans c523
                      have c537 : I529 a0 11 = v478 := (f531 _ _ (fun q => by have z := ta0; rw [q.1, ta72] at z; exact absurd z (by decide))).trans c524
                      have c538 : I529 a0 12 = v482 := (f531 _ _ (fun q => by have z := ta0; rw [q.1, ta72] at z; exact absurd z (by decide))).trans c525
                      have c539 : I529 a0 8 = v484 := (f531 _ _ (fun q => by have z := ta0; rw [q.1, ta72] at z; exact absurd z (by decide))).trans c526
                      have hO540 : FrO 14 a1 T I0 I529 := hO527.put f531 ta72 (Or.inl (by decide))
                      have hM541 : NmM I529 R0 L424 a1 gQ := NmM.kp1 hM528 f531 ta72 rfl rfl hS517.1 ta1
                      refine tr_aload_n dX12_readCall_203 rfl ?_
                      refine tr_getR dX12_readCall_204 fl12_188 (kR15 hS530.1 ta0) d2 ?_
                      refine tr_dup dX12_readCall_207 rfl ?_
                      refine q_getI dX12_readCall_208 fl12_349 (kR14 hS530.1 ta1) c533 ?_
                      refine q_iconst dX12_readCall_211 (by decide) ?_
                      intro v542 h543
                      refine q_iaddE dX12_readCall_212 (by intro j1 j2 j3 j4; exact om_bce0c7e7 b51.2 b51.1 p52 w135 h543) ?_
                      intro v544 h545
                      refine q_putI dX12_readCall_213 fl12_349 (kR14 hS530.1 ta1) (Or.inl rfl) hS530 ta1 (by show (0 : Int) ≤ v544.toInt ∧ v544.toInt ≤ (6 : Int); exact om_715f173a b31.2 b31.1 p32 b51.2 b51.1 p52 h75 p87 p88 p91 p90 b113.1 w130 w135 p147 h152 h160.2 h160.1 fd162 h168 h169 fs230 h232 h233 h235 h236 h281 h283 p441 p440 b474.1 h488 h489 h543 h545) rfl (by decide +kernel) ?_
                      intro I546 hS547 e548 f549
                      have c550 : I546 a0 13 = v470 := (f549 _ _ (fun q => absurd q.2 (by decide))).trans c534
                      have c551 : I546 a0 9 = v472 := (f549 _ _ (fun q => absurd q.2 (by decide))).trans c535
                      have c552 : I546 a0 10 = v475 := (f549 _ _ (fun q => absurd q.2 (by decide))).trans c536
                      have c553 : I546 a0 11 = v478 := (f549 _ _ (fun q => absurd q.2 (by decide))).trans c537
                      have c554 : I546 a0 12 = v482 := (f549 _ _ (fun q => absurd q.2 (by decide))).trans c538
                      have c555 : I546 a0 8 = v484 := (f549 _ _ (fun q => absurd q.2 (by decide))).trans c539
                      have hO556 : FrO 14 a1 T I0 I546 := hO540.put f549 ta1 (Or.inr rfl)
                      have hM557 : NmM I546 R0 L424 a1 gQ := NmM.kp1 hM541 f549 ta1 rfl rfl hS530.1 ta1
                      have eF := hF.eq
                      have eP := hP.eq
                      obtain ⟨v558, c559⟩ : ∃ v, I546 a0 14 = v := ⟨_, rfl⟩
                      exact tr_vret hZ dX12_readCall_216 rfl (by decide) (by decide) ⟨rfl, rfl, rfl, rfl, rfl, hS547, (fun b hb => (Option.some.inj (d2.symm.trans hb)) ▸ (((((((((((FrM.rf (R := R0) (b := a1) (T := T)).st g79 (by decide +kernel)).st g246 (by decide +kernel)).st g287 (by decide +kernel)).st g356 (by decide +kernel)).st g425 (by decide +kernel)).pu f492 (by decide) (by decide) d67).pu f505 (by decide) (by decide) d69).pu f518 (by decide) (by decide) d71).pu f531 (by decide) (by decide) d73).put f549 ta1 (by decide))), (fun dr hd => (Option.some.inj (d2.symm.trans hd)) ▸ hO556), (Or.inl ⟨(by (try rw [w129]); first | done | with_reducible assumption | omega), (fun q0 z0 => by obtain rfl := Option.some.inj ((d2).symm.trans z0); (try rw [w129]); (try rw [((hS547.cell ta1 (by decide +kernel)).trans c30)]); first | done | with_reducible assumption | exact om_2757374c p32 w130), (fun q0 z0 => by obtain rfl := Option.some.inj ((d2).symm.trans z0); (try rw [w129]); (try rw [((hS547.cell ta1 (by decide +kernel)).trans c34)]); first | done | with_reducible assumption | exact om_2757374c p36 w131), (fun q0 z0 => by obtain rfl := Option.some.inj ((d2).symm.trans z0); (try rw [w129]); (try rw [((hS547.cell ta1 (by decide +kernel)).trans c38)]); first | done | with_reducible assumption | exact om_2757374c p40 w132), (fun q0 z0 => by obtain rfl := Option.some.inj ((d2).symm.trans z0); (try rw [w129]); (try rw [((hS547.cell ta1 (by decide +kernel)).trans c42)]); first | done | with_reducible assumption | exact om_2757374c p44 w133), (fun q0 z0 => by obtain rfl := Option.some.inj ((d2).symm.trans z0); (try rw [w129]); (try rw [((hS547.cell ta1 (by decide +kernel)).trans c46)]); first | done | with_reducible assumption | exact om_2757374c p48 w134), (fun q0 z0 => by obtain rfl := Option.some.inj ((d2).symm.trans z0); (try rw [w129]); (try rw [e548]); first | done | with_reducible assumption | exact om_7149e5be p52 w135 h543 h545), (fun q0 z0 => by obtain rfl := Option.some.inj ((d2).symm.trans z0); (try rw [w129]); (try rw [((hS547.cell ta1 (by decide +kernel)).trans c54)]); first | done | with_reducible assumption | exact om_2757374c p56 w136), (fun q0 z0 => by obtain rfl := Option.some.inj ((d2).symm.trans z0); (try rw [w129]); (try rw [((hS547.cell ta1 (by decide +kernel)).trans c58)]); first | done | with_reducible assumption | exact om_2757374c p60 w138), (by (try rw [w129]); (try rw [c550]); (try rw [c65]); first | done | with_reducible assumption | exact om_751d021b p89 p301 p370 p439), (by (try rw [w129]); (try rw [c551]); first | done | with_reducible assumption | omega), (by (try rw [w129]); (try rw [c551]); first | done | with_reducible assumption | omega), (by (try rw [w129]); (try rw [c552]); first | done | with_reducible assumption | omega), (by (try rw [w129]); (try rw [c553]); first | done | with_reducible assumption | omega), (by (try rw [w129]); (try rw [c481]); first | done | assumption), (by (try rw [w129]); (try rw [c554]); first | done | assumption), (by (try rw [w129]); (try rw [c555]); first | done | assumption), hL468, (fun b hb => (Option.some.inj (d2.symm.trans hb)) ▸ NmM.ln (NmM.bd (k := srt gB gs) hM557 (by exact om_64894a24 pre18) (by exact om_3492dc36 pre18)) rfl), (fun E b hb hE => by obtain rfl := Option.some.inj (d2.symm.trans hb); exact AlM.ca hE hW0 ta1 (by exact om_ab0fb6d5 p63) (by exact om_732a8f09 b51.2 b51.1 p52 w135 h543 h545) (by exact om_b08eaffa b31.2 b31.1 p32 b51.2 b51.1 p52 h75 p87 p88 p91 p90 b113.1 w130 w135 p147 h152 h160.2 h160.1 fd162 h168 h169 fs230 h232 h233 h235 h236 h281 h283 p441 p440 b474.1 h488 h489 h543 h545) (hS547.cell ta1 (by decide +kernel)) (RoF.st (ex := xr 69 72) hS547 (by decide +kernel)) (fun f hf => match f, hf with | 0, _ => (fun a ha => by obtain rfl := Option.some.inj (d67.symm.trans ha); have zi : v49.toNatClampNeg = (gQ 5).toNat := congrArg Int.toNat (by exact om_acd7a85a p52); have ze := (Eq.trans ((f549 _ _ (fun q => by have z := ta66; rw [q.1, ta1] at z; exact absurd z (by decide))).trans ((f531 _ _ (fun q => by have z := ta66; rw [q.1, ta72] at z; exact absurd z (by decide))).trans ((f518 _ _ (fun q => by have z := ta66; rw [q.1, ta70] at z; exact absurd z (by decide))).trans (f505 _ _ (fun q => by have z := ta66; rw [q.1, ta68] at z; exact absurd z (by decide)))))) e493); rw [zi] at ze; exact ⟨by rw [ze]; exact om_ee939805 fn241, fun j hj => ((f549 _ _ (fun q => by have z := ta66; rw [q.1, ta1] at z; exact absurd z (by decide))).trans ((f531 _ _ (fun q => by have z := ta66; rw [q.1, ta72] at z; exact absurd z (by decide))).trans ((f518 _ _ (fun q => by have z := ta66; rw [q.1, ta70] at z; exact absurd z (by decide))).trans ((f505 _ _ (fun q => by have z := ta66; rw [q.1, ta68] at z; exact absurd z (by decide))).trans ((f492 _ _ (fun q => hj (q.2.trans zi))).trans ((g425.cell ta66 (wm_no (by decide +kernel))).trans ((g356.cell ta66 (wm_no (by decide +kernel))).trans ((g287.cell ta66 (wm_no (by decide +kernel))).trans ((g246.cell ta66 (wm_no (by decide +kernel))).trans (g79.cell ta66 (wm_no (by decide +kernel))))))))))))⟩) | 1, _ => (fun a ha => by obtain rfl := Option.some.inj (d69.symm.trans ha); have zi : v49.toNatClampNeg = (gQ 5).toNat := congrArg Int.toNat (by exact om_acd7a85a p52); have ze := (Eq.trans ((f549 _ _ (fun q => by have z := ta68; rw [q.1, ta1] at z; exact absurd z (by decide))).trans ((f531 _ _ (fun q => by have z := ta68; rw [q.1, ta72] at z; exact absurd z (by decide))).trans (f518 _ _ (fun q => by have z := ta68; rw [q.1, ta70] at z; exact absurd z (by decide))))) e506); rw [zi] at ze; exact ⟨by rw [ze]; exact om_942f3dda p295, fun j hj => ((f549 _ _ (fun q => by have z := ta68; rw [q.1, ta1] at z; exact absurd z (by decide))).trans ((f531 _ _ (fun q => by have z := ta68; rw [q.1, ta72] at z; exact absurd z (by decide))).trans ((f518 _ _ (fun q => by have z := ta68; rw [q.1, ta70] at z; exact absurd z (by decide))).trans ((f505 _ _ (fun q => hj (q.2.trans zi))).trans ((f492 _ _ (fun q => by have z := ta68; rw [q.1, ta66] at z; exact absurd z (by decide))).trans ((g425.cell ta68 (wm_no (by decide +kernel))).trans ((g356.cell ta68 (wm_no (by decide +kernel))).trans ((g287.cell ta68 (wm_no (by decide +kernel))).trans ((g246.cell ta68 (wm_no (by decide +kernel))).trans (g79.cell ta68 (wm_no (by decide +kernel))))))))))))⟩) | 2, _ => (fun a ha => by obtain rfl := Option.some.inj (d71.symm.trans ha); have zi : v49.toNatClampNeg = (gQ 5).toNat := congrArg Int.toNat (by exact om_acd7a85a p52); have ze := (Eq.trans ((f549 _ _ (fun q => by have z := ta70; rw [q.1, ta1] at z; exact absurd z (by decide))).trans (f531 _ _ (fun q => by have z := ta70; rw [q.1, ta72] at z; exact absurd z (by decide)))) e519); rw [zi] at ze; exact ⟨by rw [ze]; exact om_67ede83e p364, fun j hj => ((f549 _ _ (fun q => by have z := ta70; rw [q.1, ta1] at z; exact absurd z (by decide))).trans ((f531 _ _ (fun q => by have z := ta70; rw [q.1, ta72] at z; exact absurd z (by decide))).trans ((f518 _ _ (fun q => hj (q.2.trans zi))).trans ((f505 _ _ (fun q => by have z := ta70; rw [q.1, ta68] at z; exact absurd z (by decide))).trans ((f492 _ _ (fun q => by have z := ta70; rw [q.1, ta66] at z; exact absurd z (by decide))).trans ((g425.cell ta70 (wm_no (by decide +kernel))).trans ((g356.cell ta70 (wm_no (by decide +kernel))).trans ((g287.cell ta70 (wm_no (by decide +kernel))).trans ((g246.cell ta70 (wm_no (by decide +kernel))).trans (g79.cell ta70 (wm_no (by decide +kernel))))))))))))⟩) | 3, _ => (fun a ha => by obtain rfl := Option.some.inj (d73.symm.trans ha); have zi : v49.toNatClampNeg = (gQ 5).toNat := congrArg Int.toNat (by exact om_acd7a85a p52); have ze := (Eq.trans (f549 _ _ (fun q => by have z := ta72; rw [q.1, ta1] at z; exact absurd z (by decide))) e532); rw [zi] at ze; exact ⟨by rw [ze]; exact om_066e64e2 p433, fun j hj => ((f549 _ _ (fun q => by have z := ta72; rw [q.1, ta1] at z; exact absurd z (by decide))).trans ((f531 _ _ (fun q => hj (q.2.trans zi))).trans ((f518 _ _ (fun q => by have z := ta72; rw [q.1, ta70] at z; exact absurd z (by decide))).trans ((f505 _ _ (fun q => by have z := ta72; rw [q.1, ta68] at z; exact absurd z (by decide))).trans ((f492 _ _ (fun q => by have z := ta72; rw [q.1, ta66] at z; exact absurd z (by decide))).trans ((g425.cell ta72 (wm_no (by decide +kernel))).trans ((g356.cell ta72 (wm_no (by decide +kernel))).trans ((g287.cell ta72 (wm_no (by decide +kernel))).trans ((g246.cell ta72 (wm_no (by decide +kernel))).trans (g79.cell ta72 (wm_no (by decide +kernel))))))))))))⟩) | f + 4, h => absurd h (by exact om_551ec4b1 h))), trivial⟩), trivial⟩
                    · skip
                      exfalso; exact om_99cda0b7 p441 p440 b474.1 h488 h489
                  · skip
                    obtain ⟨v560, c561⟩ : ∃ v, I422 a0 9 = v := ⟨_, rfl⟩
                    have b562 := iv15_9 hS430.1 ta0 c561
                    rw [c561] at p450
                    obtain ⟨v563, c564⟩ : ∃ v, I422 a0 13 = v := ⟨_, rfl⟩
                    rw [c564] at p451
                    obtain ⟨v565, c566⟩ : ∃ v, I422 a0 14 = v := ⟨_, rfl⟩
                    rw [c566] at p452
                    replace hF := hF.pos (by exact om_0cd8357c p449)
                    replace hP := hP.pos (by exact om_0cd8357c p449)
                    refine tr_istore dX12_readCall_126 (by decide) (by decide) ?_
                    refine sf_oC128 hE hZ hS430.1 (gB) ta0 (by (try rw [c561]); first | done | with_reducible assumption | omega) ⟨_, d2⟩ rfl rfl rfl rfl rfl rfl ?_
                    rintro I567 R568 L569 ⟨g570, p571, p572, p573, rp574, -⟩
                    obtain rfl : R0 = R568 := funext fun a => funext fun j => (g570.2.2 a j (wm_no rfl)).symm
                    have hS575 := hS430.tr g570 (by decide +kernel) (by decide +kernel)
                    have c576 : I567 a1 5 = v49 := (g570.cell ta1 (by decide +kernel)).trans c431
                    have c577 : I567 a0 9 = v560 := (g570.cell ta0 (by decide +kernel)).trans c561
                    have c578 : I567 a0 13 = v563 := (g570.cell ta0 (by decide +kernel)).trans c564
                    have c579 : I567 a0 14 = v565 := (g570.cell ta0 (by decide +kernel)).trans c566
                    have hO580 : FrO 14 a1 T I0 I567 := hO432.st g570 (by decide +kernel)
                    rw [c577] at p571
                    rw [c578] at p572
                    rw [c564] at p572
                    rw [c579] at p573
                    rw [c566] at p573
                    have eF := hF.eq
                    have eP := hP.eq
                    obtain ⟨v581, c582⟩ : ∃ v, I567 a0 10 = v := ⟨_, rfl⟩
                    have b583 := iv15_10 hS575.1 ta0 c582
                    obtain ⟨v584, c585⟩ : ∃ v, I567 a0 11 = v := ⟨_, rfl⟩
                    obtain ⟨y586, c587⟩ : ∃ v, L569 a0 15 = v := ⟨_, rfl⟩
                    obtain ⟨v588, c589⟩ : ∃ v, I567 a0 12 = v := ⟨_, rfl⟩
                    obtain ⟨v590, c591⟩ : ∃ v, I567 a0 8 = v := ⟨_, rfl⟩
                    have b592 := iv15_8 hS575.1 ta0 c591
                    exact ⟨rfl, rfl, rfl, rfl, rfl, hS575, (fun b hb => (Option.some.inj (d2.symm.trans hb)) ▸ (((((((FrM.rf (R := R0) (b := a1) (T := T)).st g79 (by decide +kernel)).st g246 (by decide +kernel)).st g287 (by decide +kernel)).st g356 (by decide +kernel)).st g425 (by decide +kernel)).st g570 (by decide +kernel))), (fun dr hd => (Option.some.inj (d2.symm.trans hd)) ▸ hO580), (Or.inr (⟨(by first | done | with_reducible assumption | exact om_7fac24c5 eF), (by (try rw [c577]); first | done | with_reducible assumption | omega), (by (try rw [c578]); first | done | with_reducible assumption | exact om_3345b898 p451 eF), (by (try rw [c579]); first | done | with_reducible assumption | exact om_2757374c p452 eP), trivial⟩)), trivial⟩
                  · skip
                    obtain ⟨v593, c594⟩ : ∃ v, I422 a0 9 = v := ⟨_, rfl⟩
                    have b595 := iv15_9 hS430.1 ta0 c594
                    rw [c594] at p457
                    obtain ⟨v596, c597⟩ : ∃ v, I422 a0 13 = v := ⟨_, rfl⟩
                    rw [c597] at p458
                    obtain ⟨v598, c599⟩ : ∃ v, I422 a0 14 = v := ⟨_, rfl⟩
                    rw [c599] at p459
                    replace hF := hF.neg (by exact om_95feeb19 p454 p455)
                    replace hP := hP.neg (by exact om_95feeb19 p454 p455)
                    replace hF := hF.pos (by exact om_73cc8e29 p456)
                    replace hP := hP.pos (by exact om_73cc8e29 p456)
                    refine tr_istore dX12_readCall_126 (by decide) (by decide) ?_
                    refine sf_oC128 hE hZ hS430.1 (gB) ta0 (by (try rw [c594]); first | done | with_reducible assumption | omega) ⟨_, d2⟩ rfl rfl rfl rfl rfl rfl ?_
                    rintro I600 R601 L602 ⟨g603, p604, p605, p606, rp607, -⟩
                    obtain rfl : R0 = R601 := funext fun a => funext fun j => (g603.2.2 a j (wm_no rfl)).symm
                    have hS608 := hS430.tr g603 (by decide +kernel) (by decide +kernel)
                    have c609 : I600 a1 5 = v49 := (g603.cell ta1 (by decide +kernel)).trans c431
                    have c610 : I600 a0 9 = v593 := (g603.cell ta0 (by decide +kernel)).trans c594
                    have c611 : I600 a0 13 = v596 := (g603.cell ta0 (by decide +kernel)).trans c597
                    have c612 : I600 a0 14 = v598 := (g603.cell ta0 (by decide +kernel)).trans c599
                    have hO613 : FrO 14 a1 T I0 I600 := hO432.st g603 (by decide +kernel)
                    rw [c610] at p604
                    rw [c611] at p605
                    rw [c597] at p605
                    rw [c612] at p606
                    rw [c599] at p606
                    have eF := hF.eq
                    have eP := hP.eq
                    obtain ⟨v614, c615⟩ : ∃ v, I600 a0 10 = v := ⟨_, rfl⟩
                    have b616 := iv15_10 hS608.1 ta0 c615
                    obtain ⟨v617, c618⟩ : ∃ v, I600 a0 11 = v := ⟨_, rfl⟩
                    obtain ⟨y619, c620⟩ : ∃ v, L602 a0 15 = v := ⟨_, rfl⟩
                    obtain ⟨v621, c622⟩ : ∃ v, I600 a0 12 = v := ⟨_, rfl⟩
                    obtain ⟨v623, c624⟩ : ∃ v, I600 a0 8 = v := ⟨_, rfl⟩
                    have b625 := iv15_8 hS608.1 ta0 c624
                    exact ⟨rfl, rfl, rfl, rfl, rfl, hS608, (fun b hb => (Option.some.inj (d2.symm.trans hb)) ▸ (((((((FrM.rf (R := R0) (b := a1) (T := T)).st g79 (by decide +kernel)).st g246 (by decide +kernel)).st g287 (by decide +kernel)).st g356 (by decide +kernel)).st g425 (by decide +kernel)).st g603 (by decide +kernel))), (fun dr hd => (Option.some.inj (d2.symm.trans hd)) ▸ hO613), (Or.inr (⟨(by first | done | with_reducible assumption | exact om_7fac24c5 eF), (by (try rw [c610]); first | done | with_reducible assumption | omega), (by (try rw [c611]); first | done | with_reducible assumption | exact om_3345b898 p458 eF), (by (try rw [c612]); first | done | with_reducible assumption | exact om_2757374c p459 eP), trivial⟩)), trivial⟩
                  · skip
                    obtain ⟨v626, c627⟩ : ∃ v, I422 a0 9 = v := ⟨_, rfl⟩
                    have b628 := iv15_9 hS430.1 ta0 c627
                    rw [c627] at p465
                    obtain ⟨v629, c630⟩ : ∃ v, I422 a0 13 = v := ⟨_, rfl⟩
                    rw [c630] at p466
                    obtain ⟨v631, c632⟩ : ∃ v, I422 a0 14 = v := ⟨_, rfl⟩
                    rw [c632] at p467
                    replace hF := hF.neg (by exact om_95feeb19 p461 p462)
                    replace hP := hP.neg (by exact om_95feeb19 p461 p462)
                    replace hF := hF.neg (by exact om_10ed11b5 p463)
                    replace hP := hP.neg (by exact om_10ed11b5 p463)
                    replace hF := hF.pos (by exact om_20030929 h419 h421 p464)
                    replace hP := hP.pos (by exact om_20030929 h419 h421 p464)
                    refine tr_istore dX12_readCall_126 (by decide) (by decide) ?_
                    refine sf_oC128 hE hZ hS430.1 (gB) ta0 (by (try rw [c627]); first | done | with_reducible assumption | omega) ⟨_, d2⟩ rfl rfl rfl rfl rfl rfl ?_
                    rintro I633 R634 L635 ⟨g636, p637, p638, p639, rp640, -⟩
                    obtain rfl : R0 = R634 := funext fun a => funext fun j => (g636.2.2 a j (wm_no rfl)).symm
                    have hS641 := hS430.tr g636 (by decide +kernel) (by decide +kernel)
                    have c642 : I633 a1 5 = v49 := (g636.cell ta1 (by decide +kernel)).trans c431
                    have c643 : I633 a0 9 = v626 := (g636.cell ta0 (by decide +kernel)).trans c627
                    have c644 : I633 a0 13 = v629 := (g636.cell ta0 (by decide +kernel)).trans c630
                    have c645 : I633 a0 14 = v631 := (g636.cell ta0 (by decide +kernel)).trans c632
                    have hO646 : FrO 14 a1 T I0 I633 := hO432.st g636 (by decide +kernel)
                    rw [c643] at p637
                    rw [c644] at p638
                    rw [c630] at p638
                    rw [c645] at p639
                    rw [c632] at p639
                    have eF := hF.eq
                    have eP := hP.eq
                    obtain ⟨v647, c648⟩ : ∃ v, I633 a0 10 = v := ⟨_, rfl⟩
                    have b649 := iv15_10 hS641.1 ta0 c648
                    obtain ⟨v650, c651⟩ : ∃ v, I633 a0 11 = v := ⟨_, rfl⟩
                    obtain ⟨y652, c653⟩ : ∃ v, L635 a0 15 = v := ⟨_, rfl⟩
                    obtain ⟨v654, c655⟩ : ∃ v, I633 a0 12 = v := ⟨_, rfl⟩
                    obtain ⟨v656, c657⟩ : ∃ v, I633 a0 8 = v := ⟨_, rfl⟩
                    have b658 := iv15_8 hS641.1 ta0 c657
                    exact ⟨rfl, rfl, rfl, rfl, rfl, hS641, (fun b hb => (Option.some.inj (d2.symm.trans hb)) ▸ (((((((FrM.rf (R := R0) (b := a1) (T := T)).st g79 (by decide +kernel)).st g246 (by decide +kernel)).st g287 (by decide +kernel)).st g356 (by decide +kernel)).st g425 (by decide +kernel)).st g636 (by decide +kernel))), (fun dr hd => (Option.some.inj (d2.symm.trans hd)) ▸ hO646), (Or.inr (⟨(by first | done | with_reducible assumption | exact om_7b84bd42 eF), (by (try rw [c643]); first | done | with_reducible assumption | omega), (by (try rw [c644]); first | done | with_reducible assumption | exact om_46d5da87 p466 eF), (by (try rw [c645]); first | done | with_reducible assumption | exact om_2757374c p467 eP), trivial⟩)), trivial⟩
                · skip
                  obtain ⟨v659, c660⟩ : ∃ v, I353 a0 9 = v := ⟨_, rfl⟩
                  have b661 := iv15_9 hS361.1 ta0 c660
                  rw [c660] at p381
                  obtain ⟨v662, c663⟩ : ∃ v, I353 a0 13 = v := ⟨_, rfl⟩
                  rw [c663] at p382
                  obtain ⟨v664, c665⟩ : ∃ v, I353 a0 14 = v := ⟨_, rfl⟩
                  rw [c665] at p383
                  replace hF := hF.pos (by exact om_2d6c483d p380)
                  replace hP := hP.pos (by exact om_2d6c483d p380)
                  refine tr_istore dX12_readCall_114 (by decide) (by decide) ?_
                  refine sf_oC116 hE hZ hS361.1 (gB) ta0 (by (try rw [c660]); first | done | with_reducible assumption | omega) ⟨_, d2⟩ rfl rfl rfl rfl rfl ?_
                  rintro I666 R667 L668 ⟨g669, p670, p671, p672, rp673, -⟩
                  obtain rfl : R0 = R667 := funext fun a => funext fun j => (g669.2.2 a j (wm_no rfl)).symm
                  have hS674 := hS361.tr g669 (by decide +kernel) (by decide +kernel)
                  have c675 : I666 a1 5 = v49 := (g669.cell ta1 (by decide +kernel)).trans c362
                  have hO676 : FrO 14 a1 T I0 I666 := hO363.st g669 (by decide +kernel)
                  obtain ⟨v677, c678⟩ : ∃ v, I666 a0 9 = v := ⟨_, rfl⟩
                  have b679 := iv15_9 hS674.1 ta0 c678
                  rw [c678] at p670
                  obtain ⟨v680, c681⟩ : ∃ v, I666 a0 13 = v := ⟨_, rfl⟩
                  rw [c681] at p671
                  rw [c663] at p671
                  obtain ⟨v682, c683⟩ : ∃ v, I666 a0 14 = v := ⟨_, rfl⟩
                  rw [c683] at p672
                  rw [c665] at p672
                  have eF := hF.eq
                  have eP := hP.eq
                  obtain ⟨v684, c685⟩ : ∃ v, I666 a0 10 = v := ⟨_, rfl⟩
                  have b686 := iv15_10 hS674.1 ta0 c685
                  obtain ⟨v687, c688⟩ : ∃ v, I666 a0 11 = v := ⟨_, rfl⟩
                  obtain ⟨y689, c690⟩ : ∃ v, L668 a0 15 = v := ⟨_, rfl⟩
                  obtain ⟨v691, c692⟩ : ∃ v, I666 a0 12 = v := ⟨_, rfl⟩
                  obtain ⟨v693, c694⟩ : ∃ v, I666 a0 8 = v := ⟨_, rfl⟩
                  have b695 := iv15_8 hS674.1 ta0 c694
                  exact ⟨rfl, rfl, rfl, rfl, rfl, hS674, (fun b hb => (Option.some.inj (d2.symm.trans hb)) ▸ ((((((FrM.rf (R := R0) (b := a1) (T := T)).st g79 (by decide +kernel)).st g246 (by decide +kernel)).st g287 (by decide +kernel)).st g356 (by decide +kernel)).st g669 (by decide +kernel))), (fun dr hd => (Option.some.inj (d2.symm.trans hd)) ▸ hO676), (Or.inr (⟨(by first | done | with_reducible assumption | exact om_7fac24c5 eF), (by (try rw [c678]); first | done | with_reducible assumption | omega), (by (try rw [c681]); first | done | with_reducible assumption | exact om_9adad658 p382 p671 eF), (by (try rw [c683]); first | done | with_reducible assumption | exact om_3998a42e p383 p672 eP), trivial⟩)), trivial⟩
                · skip
                  obtain ⟨v696, c697⟩ : ∃ v, I353 a0 9 = v := ⟨_, rfl⟩
                  have b698 := iv15_9 hS361.1 ta0 c697
                  rw [c697] at p388
                  obtain ⟨v699, c700⟩ : ∃ v, I353 a0 13 = v := ⟨_, rfl⟩
                  rw [c700] at p389
                  obtain ⟨v701, c702⟩ : ∃ v, I353 a0 14 = v := ⟨_, rfl⟩
                  rw [c702] at p390
                  replace hF := hF.neg (by exact om_9e763d12 p385 p386)
                  replace hP := hP.neg (by exact om_9e763d12 p385 p386)
                  replace hF := hF.pos (by exact om_73cc8e29 p387)
                  replace hP := hP.pos (by exact om_73cc8e29 p387)
                  refine tr_istore dX12_readCall_114 (by decide) (by decide) ?_
                  refine sf_oC116 hE hZ hS361.1 (gB) ta0 (by (try rw [c697]); first | done | with_reducible assumption | omega) ⟨_, d2⟩ rfl rfl rfl rfl rfl ?_
                  rintro I703 R704 L705 ⟨g706, p707, p708, p709, rp710, -⟩
                  obtain rfl : R0 = R704 := funext fun a => funext fun j => (g706.2.2 a j (wm_no rfl)).symm
                  have hS711 := hS361.tr g706 (by decide +kernel) (by decide +kernel)
                  have c712 : I703 a1 5 = v49 := (g706.cell ta1 (by decide +kernel)).trans c362
                  have hO713 : FrO 14 a1 T I0 I703 := hO363.st g706 (by decide +kernel)
                  obtain ⟨v714, c715⟩ : ∃ v, I703 a0 9 = v := ⟨_, rfl⟩
                  have b716 := iv15_9 hS711.1 ta0 c715
                  rw [c715] at p707
                  obtain ⟨v717, c718⟩ : ∃ v, I703 a0 13 = v := ⟨_, rfl⟩
                  rw [c718] at p708
                  rw [c700] at p708
                  obtain ⟨v719, c720⟩ : ∃ v, I703 a0 14 = v := ⟨_, rfl⟩
                  rw [c720] at p709
                  rw [c702] at p709
                  have eF := hF.eq
                  have eP := hP.eq
                  obtain ⟨v721, c722⟩ : ∃ v, I703 a0 10 = v := ⟨_, rfl⟩
                  have b723 := iv15_10 hS711.1 ta0 c722
                  obtain ⟨v724, c725⟩ : ∃ v, I703 a0 11 = v := ⟨_, rfl⟩
                  obtain ⟨y726, c727⟩ : ∃ v, L705 a0 15 = v := ⟨_, rfl⟩
                  obtain ⟨v728, c729⟩ : ∃ v, I703 a0 12 = v := ⟨_, rfl⟩
                  obtain ⟨v730, c731⟩ : ∃ v, I703 a0 8 = v := ⟨_, rfl⟩
                  have b732 := iv15_8 hS711.1 ta0 c731
                  exact ⟨rfl, rfl, rfl, rfl, rfl, hS711, (fun b hb => (Option.some.inj (d2.symm.trans hb)) ▸ ((((((FrM.rf (R := R0) (b := a1) (T := T)).st g79 (by decide +kernel)).st g246 (by decide +kernel)).st g287 (by decide +kernel)).st g356 (by decide +kernel)).st g706 (by decide +kernel))), (fun dr hd => (Option.some.inj (d2.symm.trans hd)) ▸ hO713), (Or.inr (⟨(by first | done | with_reducible assumption | exact om_7fac24c5 eF), (by (try rw [c715]); first | done | with_reducible assumption | omega), (by (try rw [c718]); first | done | with_reducible assumption | exact om_9adad658 p389 p708 eF), (by (try rw [c720]); first | done | with_reducible assumption | exact om_3998a42e p390 p709 eP), trivial⟩)), trivial⟩
                · skip
                  obtain ⟨v733, c734⟩ : ∃ v, I353 a0 9 = v := ⟨_, rfl⟩
                  have b735 := iv15_9 hS361.1 ta0 c734
                  rw [c734] at p396
                  obtain ⟨v736, c737⟩ : ∃ v, I353 a0 13 = v := ⟨_, rfl⟩
                  rw [c737] at p397
                  obtain ⟨v738, c739⟩ : ∃ v, I353 a0 14 = v := ⟨_, rfl⟩
                  rw [c739] at p398
                  replace hF := hF.neg (by exact om_9e763d12 p392 p393)
                  replace hP := hP.neg (by exact om_9e763d12 p392 p393)
                  replace hF := hF.neg (by exact om_10ed11b5 p394)
                  replace hP := hP.neg (by exact om_10ed11b5 p394)
                  replace hF := hF.pos (by exact om_d2c63994 h350 h352 p395)
                  replace hP := hP.pos (by exact om_d2c63994 h350 h352 p395)
                  refine tr_istore dX12_readCall_114 (by decide) (by decide) ?_
                  refine sf_oC116 hE hZ hS361.1 (gB) ta0 (by (try rw [c734]); first | done | with_reducible assumption | omega) ⟨_, d2⟩ rfl rfl rfl rfl rfl ?_
                  rintro I740 R741 L742 ⟨g743, p744, p745, p746, rp747, -⟩
                  obtain rfl : R0 = R741 := funext fun a => funext fun j => (g743.2.2 a j (wm_no rfl)).symm
                  have hS748 := hS361.tr g743 (by decide +kernel) (by decide +kernel)
                  have c749 : I740 a1 5 = v49 := (g743.cell ta1 (by decide +kernel)).trans c362
                  have hO750 : FrO 14 a1 T I0 I740 := hO363.st g743 (by decide +kernel)
                  obtain ⟨v751, c752⟩ : ∃ v, I740 a0 9 = v := ⟨_, rfl⟩
                  have b753 := iv15_9 hS748.1 ta0 c752
                  rw [c752] at p744
                  obtain ⟨v754, c755⟩ : ∃ v, I740 a0 13 = v := ⟨_, rfl⟩
                  rw [c755] at p745
                  rw [c737] at p745
                  obtain ⟨v756, c757⟩ : ∃ v, I740 a0 14 = v := ⟨_, rfl⟩
                  rw [c757] at p746
                  rw [c739] at p746
                  have eF := hF.eq
                  have eP := hP.eq
                  obtain ⟨v758, c759⟩ : ∃ v, I740 a0 10 = v := ⟨_, rfl⟩
                  have b760 := iv15_10 hS748.1 ta0 c759
                  obtain ⟨v761, c762⟩ : ∃ v, I740 a0 11 = v := ⟨_, rfl⟩
                  obtain ⟨y763, c764⟩ : ∃ v, L742 a0 15 = v := ⟨_, rfl⟩
                  obtain ⟨v765, c766⟩ : ∃ v, I740 a0 12 = v := ⟨_, rfl⟩
                  obtain ⟨v767, c768⟩ : ∃ v, I740 a0 8 = v := ⟨_, rfl⟩
                  have b769 := iv15_8 hS748.1 ta0 c768
                  exact ⟨rfl, rfl, rfl, rfl, rfl, hS748, (fun b hb => (Option.some.inj (d2.symm.trans hb)) ▸ ((((((FrM.rf (R := R0) (b := a1) (T := T)).st g79 (by decide +kernel)).st g246 (by decide +kernel)).st g287 (by decide +kernel)).st g356 (by decide +kernel)).st g743 (by decide +kernel))), (fun dr hd => (Option.some.inj (d2.symm.trans hd)) ▸ hO750), (Or.inr (⟨(by first | done | with_reducible assumption | exact om_7b84bd42 eF), (by (try rw [c752]); first | done | with_reducible assumption | omega), (by (try rw [c755]); first | done | with_reducible assumption | exact om_4510ffdb p397 p745 eF), (by (try rw [c757]); first | done | with_reducible assumption | exact om_3998a42e p398 p746 eP), trivial⟩)), trivial⟩
              · skip
                obtain ⟨v770, c771⟩ : ∃ v, I284 a0 9 = v := ⟨_, rfl⟩
                have b772 := iv15_9 hS292.1 ta0 c771
                rw [c771] at p312
                obtain ⟨v773, c774⟩ : ∃ v, I284 a0 13 = v := ⟨_, rfl⟩
                rw [c774] at p313
                obtain ⟨v775, c776⟩ : ∃ v, I284 a0 14 = v := ⟨_, rfl⟩
                rw [c776] at p314
                replace hF := hF.pos (by exact om_f23dce10 p311)
                replace hP := hP.pos (by exact om_f23dce10 p311)
                refine tr_istore_n dX12_readCall_103 (by decide) (by decide) ?_
                refine sf_oC104 hE hZ hS292.1 (gB) ta0 (by (try rw [c771]); first | done | with_reducible assumption | omega) ⟨_, d2⟩ rfl rfl rfl rfl ?_
                rintro I777 R778 L779 ⟨g780, p781, p782, p783, rp784, -⟩
                obtain rfl : R0 = R778 := funext fun a => funext fun j => (g780.2.2 a j (wm_no rfl)).symm
                have hS785 := hS292.tr g780 (by decide +kernel) (by decide +kernel)
                have c786 : I777 a1 5 = v49 := (g780.cell ta1 (by decide +kernel)).trans c293
                have hO787 : FrO 14 a1 T I0 I777 := hO294.st g780 (by decide +kernel)
                obtain ⟨v788, c789⟩ : ∃ v, I777 a0 9 = v := ⟨_, rfl⟩
                have b790 := iv15_9 hS785.1 ta0 c789
                rw [c789] at p781
                obtain ⟨v791, c792⟩ : ∃ v, I777 a0 13 = v := ⟨_, rfl⟩
                rw [c792] at p782
                rw [c774] at p782
                obtain ⟨v793, c794⟩ : ∃ v, I777 a0 14 = v := ⟨_, rfl⟩
                rw [c794] at p783
                rw [c776] at p783
                have eF := hF.eq
                have eP := hP.eq
                obtain ⟨v795, c796⟩ : ∃ v, I777 a0 10 = v := ⟨_, rfl⟩
                have b797 := iv15_10 hS785.1 ta0 c796
                obtain ⟨v798, c799⟩ : ∃ v, I777 a0 11 = v := ⟨_, rfl⟩
                obtain ⟨y800, c801⟩ : ∃ v, L779 a0 15 = v := ⟨_, rfl⟩
                obtain ⟨v802, c803⟩ : ∃ v, I777 a0 12 = v := ⟨_, rfl⟩
                obtain ⟨v804, c805⟩ : ∃ v, I777 a0 8 = v := ⟨_, rfl⟩
                have b806 := iv15_8 hS785.1 ta0 c805
                exact ⟨rfl, rfl, rfl, rfl, rfl, hS785, (fun b hb => (Option.some.inj (d2.symm.trans hb)) ▸ (((((FrM.rf (R := R0) (b := a1) (T := T)).st g79 (by decide +kernel)).st g246 (by decide +kernel)).st g287 (by decide +kernel)).st g780 (by decide +kernel))), (fun dr hd => (Option.some.inj (d2.symm.trans hd)) ▸ hO787), (Or.inr (⟨(by first | done | with_reducible assumption | exact om_7fac24c5 eF), (by (try rw [c789]); first | done | with_reducible assumption | omega), (by (try rw [c792]); first | done | with_reducible assumption | exact om_9adad658 p313 p782 eF), (by (try rw [c794]); first | done | with_reducible assumption | exact om_3998a42e p314 p783 eP), trivial⟩)), trivial⟩
              · skip
                obtain ⟨v807, c808⟩ : ∃ v, I284 a0 9 = v := ⟨_, rfl⟩
                have b809 := iv15_9 hS292.1 ta0 c808
                rw [c808] at p319
                obtain ⟨v810, c811⟩ : ∃ v, I284 a0 13 = v := ⟨_, rfl⟩
                rw [c811] at p320
                obtain ⟨v812, c813⟩ : ∃ v, I284 a0 14 = v := ⟨_, rfl⟩
                rw [c813] at p321
                replace hF := hF.neg (by exact om_04eb041f p316 p317)
                replace hP := hP.neg (by exact om_04eb041f p316 p317)
                replace hF := hF.pos (by exact om_73cc8e29 p318)
                replace hP := hP.pos (by exact om_73cc8e29 p318)
                refine tr_istore_n dX12_readCall_103 (by decide) (by decide) ?_
                refine sf_oC104 hE hZ hS292.1 (gB) ta0 (by (try rw [c808]); first | done | with_reducible assumption | omega) ⟨_, d2⟩ rfl rfl rfl rfl ?_
                rintro I814 R815 L816 ⟨g817, p818, p819, p820, rp821, -⟩
                obtain rfl : R0 = R815 := funext fun a => funext fun j => (g817.2.2 a j (wm_no rfl)).symm
                have hS822 := hS292.tr g817 (by decide +kernel) (by decide +kernel)
                have c823 : I814 a1 5 = v49 := (g817.cell ta1 (by decide +kernel)).trans c293
                have hO824 : FrO 14 a1 T I0 I814 := hO294.st g817 (by decide +kernel)
                obtain ⟨v825, c826⟩ : ∃ v, I814 a0 9 = v := ⟨_, rfl⟩
                have b827 := iv15_9 hS822.1 ta0 c826
                rw [c826] at p818
                obtain ⟨v828, c829⟩ : ∃ v, I814 a0 13 = v := ⟨_, rfl⟩
                rw [c829] at p819
                rw [c811] at p819
                obtain ⟨v830, c831⟩ : ∃ v, I814 a0 14 = v := ⟨_, rfl⟩
                rw [c831] at p820
                rw [c813] at p820
                have eF := hF.eq
                have eP := hP.eq
                obtain ⟨v832, c833⟩ : ∃ v, I814 a0 10 = v := ⟨_, rfl⟩
                have b834 := iv15_10 hS822.1 ta0 c833
                obtain ⟨v835, c836⟩ : ∃ v, I814 a0 11 = v := ⟨_, rfl⟩
                obtain ⟨y837, c838⟩ : ∃ v, L816 a0 15 = v := ⟨_, rfl⟩
                obtain ⟨v839, c840⟩ : ∃ v, I814 a0 12 = v := ⟨_, rfl⟩
                obtain ⟨v841, c842⟩ : ∃ v, I814 a0 8 = v := ⟨_, rfl⟩
                have b843 := iv15_8 hS822.1 ta0 c842
                exact ⟨rfl, rfl, rfl, rfl, rfl, hS822, (fun b hb => (Option.some.inj (d2.symm.trans hb)) ▸ (((((FrM.rf (R := R0) (b := a1) (T := T)).st g79 (by decide +kernel)).st g246 (by decide +kernel)).st g287 (by decide +kernel)).st g817 (by decide +kernel))), (fun dr hd => (Option.some.inj (d2.symm.trans hd)) ▸ hO824), (Or.inr (⟨(by first | done | with_reducible assumption | exact om_7fac24c5 eF), (by (try rw [c826]); first | done | with_reducible assumption | omega), (by (try rw [c829]); first | done | with_reducible assumption | exact om_9adad658 p320 p819 eF), (by (try rw [c831]); first | done | with_reducible assumption | exact om_3998a42e p321 p820 eP), trivial⟩)), trivial⟩
              · skip
                obtain ⟨v844, c845⟩ : ∃ v, I284 a0 9 = v := ⟨_, rfl⟩
                have b846 := iv15_9 hS292.1 ta0 c845
                rw [c845] at p327
                obtain ⟨v847, c848⟩ : ∃ v, I284 a0 13 = v := ⟨_, rfl⟩
                rw [c848] at p328
                obtain ⟨v849, c850⟩ : ∃ v, I284 a0 14 = v := ⟨_, rfl⟩
                rw [c850] at p329
                replace hF := hF.neg (by exact om_04eb041f p323 p324)
                replace hP := hP.neg (by exact om_04eb041f p323 p324)
                replace hF := hF.neg (by exact om_10ed11b5 p325)
                replace hP := hP.neg (by exact om_10ed11b5 p325)
                replace hF := hF.pos (by exact om_41eb13e5 p32 w130 h279 h281 h283 p326)
                replace hP := hP.pos (by exact om_41eb13e5 p32 w130 h279 h281 h283 p326)
                refine tr_istore_n dX12_readCall_103 (by decide) (by decide) ?_
                refine sf_oC104 hE hZ hS292.1 (gB) ta0 (by (try rw [c845]); first | done | with_reducible assumption | omega) ⟨_, d2⟩ rfl rfl rfl rfl ?_
                rintro I851 R852 L853 ⟨g854, p855, p856, p857, rp858, -⟩
                obtain rfl : R0 = R852 := funext fun a => funext fun j => (g854.2.2 a j (wm_no rfl)).symm
                have hS859 := hS292.tr g854 (by decide +kernel) (by decide +kernel)
                have c860 : I851 a1 5 = v49 := (g854.cell ta1 (by decide +kernel)).trans c293
                have hO861 : FrO 14 a1 T I0 I851 := hO294.st g854 (by decide +kernel)
                obtain ⟨v862, c863⟩ : ∃ v, I851 a0 9 = v := ⟨_, rfl⟩
                have b864 := iv15_9 hS859.1 ta0 c863
                rw [c863] at p855
                obtain ⟨v865, c866⟩ : ∃ v, I851 a0 13 = v := ⟨_, rfl⟩
                rw [c866] at p856
                rw [c848] at p856
                obtain ⟨v867, c868⟩ : ∃ v, I851 a0 14 = v := ⟨_, rfl⟩
                rw [c868] at p857
                rw [c850] at p857
                have eF := hF.eq
                have eP := hP.eq
                obtain ⟨v869, c870⟩ : ∃ v, I851 a0 10 = v := ⟨_, rfl⟩
                have b871 := iv15_10 hS859.1 ta0 c870
                obtain ⟨v872, c873⟩ : ∃ v, I851 a0 11 = v := ⟨_, rfl⟩
                obtain ⟨y874, c875⟩ : ∃ v, L853 a0 15 = v := ⟨_, rfl⟩
                obtain ⟨v876, c877⟩ : ∃ v, I851 a0 12 = v := ⟨_, rfl⟩
                obtain ⟨v878, c879⟩ : ∃ v, I851 a0 8 = v := ⟨_, rfl⟩
                have b880 := iv15_8 hS859.1 ta0 c879
                exact ⟨rfl, rfl, rfl, rfl, rfl, hS859, (fun b hb => (Option.some.inj (d2.symm.trans hb)) ▸ (((((FrM.rf (R := R0) (b := a1) (T := T)).st g79 (by decide +kernel)).st g246 (by decide +kernel)).st g287 (by decide +kernel)).st g854 (by decide +kernel))), (fun dr hd => (Option.some.inj (d2.symm.trans hd)) ▸ hO861), (Or.inr (⟨(by first | done | with_reducible assumption | exact om_7b84bd42 eF), (by (try rw [c863]); first | done | with_reducible assumption | omega), (by (try rw [c866]); first | done | with_reducible assumption | exact om_4510ffdb p328 p856 eF), (by (try rw [c868]); first | done | with_reducible assumption | exact om_3998a42e p329 p857 eP), trivial⟩)), trivial⟩
            · skip
              exfalso; exact om_99cda0b7 p91 p90 b113.1 h235 h236
          · skip
            replace hF := hF.pos (by exact om_39ddb9d5 fs230 h232 h233)
            replace hP := hP.pos (by exact om_39ddb9d5 fs230 h232 h233)
            refine tr_aload_n dX12_readCall_55 rfl ?_
            refine q_iconst dX12_readCall_56 (by decide) ?_
            intro v881 h882
            refine q_callVv hE (M' := mX12_flaw) (as := [_]) dX12_readCall_57 lk12_145 inX12_flaw seX12_flaw myX12_flaw (by decide) ⟨by decide, by decide⟩ rfl (kR15 hS84.1 ta0) (Nat.le_of_ble_eq_true rfl) rfl rfl (by decide) (by decide) (fk_X12_flaw hS84.1  ta0 (by exact om_18f49b90 h882) (by (try rw [c112]); first | done | with_reducible assumption | exact om_f9de8b4b p91 p90 b113.1)) ?_
            rintro cn' K' N' I883 R884 L885 ⟨rfl, rfl, rfl, rfl, rfl, g886, p889, p890, p891, -⟩
            have hM892 : NmM I883 R0 L78 a1 gQ := NmM.kpS hM108 g886 hS84.1 ta1 (by decide +kernel) (by decide +kernel)
            have hS893 := hS84.tr g886 (by decide +kernel) (by decide +kernel)
            have c894 : I883 a1 5 = v49 := (g886.cell ta1 (by decide +kernel)).trans c85
            have c895 : I883 a0 10 = v114 := (g886.cell ta0 (by decide +kernel)).trans c115
            have c896 : I883 a0 11 = v117 := (g886.cell ta0 (by decide +kernel)).trans c118
            have c897 : I883 a0 12 = v121 := (g886.cell ta0 (by decide +kernel)).trans c122
            have c898 : I883 a0 8 = v123 := (g886.cell ta0 (by decide +kernel)).trans c124
            have hO899 : FrO 14 a1 T I0 I883 := hO86.st g886 (by decide +kernel)
            obtain ⟨v900, c901⟩ : ∃ v, I883 a0 9 = v := ⟨_, rfl⟩
            have b902 := iv15_9 hS893.1 ta0 c901
            rw [c901] at p889
            obtain ⟨v903, c904⟩ : ∃ v, I883 a0 13 = v := ⟨_, rfl⟩
            rw [c904] at p890
            obtain ⟨v905, c906⟩ : ∃ v, I883 a0 14 = v := ⟨_, rfl⟩
            rw [c906] at p891
            rw [c115] at p891
            refine sf_oC60 hE hZ hS893.1 (gB) ta0 (by (try rw [c901]); first | done | with_reducible assumption | omega) ⟨_, d2⟩ rfl rfl ?_
            rintro I907 R908 L909 ⟨g910, p911, p912, p913, rp914, -⟩
            obtain rfl : R0 = R908 := funext fun a => funext fun j => (g910.2.2 a j (wm_no rfl)).symm
            have hS915 := hS893.tr g910 (by decide +kernel) (by decide +kernel)
            have c916 : I907 a1 5 = v49 := (g910.cell ta1 (by decide +kernel)).trans c894
            have hO917 : FrO 14 a1 T I0 I907 := hO899.st g910 (by decide +kernel)
            obtain ⟨v918, c919⟩ : ∃ v, I907 a0 9 = v := ⟨_, rfl⟩
            have b920 := iv15_9 hS915.1 ta0 c919
            rw [c919] at p911
            obtain ⟨v921, c922⟩ : ∃ v, I907 a0 13 = v := ⟨_, rfl⟩
            rw [c922] at p912
            rw [c904] at p912
            obtain ⟨v923, c924⟩ : ∃ v, I907 a0 14 = v := ⟨_, rfl⟩
            rw [c924] at p913
            rw [c906] at p913
            have eF := hF.eq
            have eP := hP.eq
            obtain ⟨v925, c926⟩ : ∃ v, I907 a0 10 = v := ⟨_, rfl⟩
            have b927 := iv15_10 hS915.1 ta0 c926
            obtain ⟨v928, c929⟩ : ∃ v, I907 a0 11 = v := ⟨_, rfl⟩
            obtain ⟨y930, c931⟩ : ∃ v, L909 a0 15 = v := ⟨_, rfl⟩
            obtain ⟨v932, c933⟩ : ∃ v, I907 a0 12 = v := ⟨_, rfl⟩
            obtain ⟨v934, c935⟩ : ∃ v, I907 a0 8 = v := ⟨_, rfl⟩
            have b936 := iv15_8 hS915.1 ta0 c935
            exact ⟨rfl, rfl, rfl, rfl, rfl, hS915, (fun b hb => (Option.some.inj (d2.symm.trans hb)) ▸ ((((FrM.rf (R := R0) (b := a1) (T := T)).st g79 (by decide +kernel)).st g886 (by decide +kernel)).st g910 (by decide +kernel))), (fun dr hd => (Option.some.inj (d2.symm.trans hd)) ▸ hO917), (Or.inr (⟨(by first | done | with_reducible assumption | exact om_ecb25a59 eF), (by (try rw [c919]); first | done | with_reducible assumption | omega), (by (try rw [c922]); first | done | with_reducible assumption | exact om_56a31c7f h882 p890 p912 eF), (by (try rw [c924]); first | done | with_reducible assumption | exact om_3efc13ef p92 p891 p913 eP), trivial⟩)), trivial⟩
      · skip
        exfalso; exact om_3624102b p147 h152
    · skip
      replace hF := hF.pos (by exact om_ea380f8a p151)
      replace hP := hP.pos (by exact om_ea380f8a p151)
      refine q_if_ne 25 dX12_readCall_17 (by decide) (fun h937 => ?_) (fun h937 => ?_)
      · skip
        exfalso; exact om_3a97d4a5 p150 h937
      · skip
        refine tr_aload_n dX12_readCall_20 rfl ?_
        refine q_iconst dX12_readCall_21 (by decide) ?_
        intro v938 h939
        refine q_callVv hE (M' := mX12_flaw) (as := [_]) dX12_readCall_22 lk12_145 inX12_flaw seX12_flaw myX12_flaw (by decide) ⟨by decide, by decide⟩ rfl (kR15 hS84.1 ta0) (Nat.le_of_ble_eq_true rfl) rfl rfl (by decide) (by decide) (fk_X12_flaw hS84.1  ta0 (by exact om_95922198 h939) (by (try rw [c112]); first | done | with_reducible assumption | exact om_f9de8b4b p91 p90 b113.1)) ?_
        rintro cn' K' N' I940 R941 L942 ⟨rfl, rfl, rfl, rfl, rfl, g943, p946, p947, p948, -⟩
        have hM949 : NmM I940 R0 L78 a1 gQ := NmM.kpS hM108 g943 hS84.1 ta1 (by decide +kernel) (by decide +kernel)
        have hS950 := hS84.tr g943 (by decide +kernel) (by decide +kernel)
        have c951 : I940 a1 5 = v49 := (g943.cell ta1 (by decide +kernel)).trans c85
        have c952 : I940 a0 10 = v114 := (g943.cell ta0 (by decide +kernel)).trans c115
        have c953 : I940 a0 11 = v117 := (g943.cell ta0 (by decide +kernel)).trans c118
        have c954 : I940 a0 12 = v121 := (g943.cell ta0 (by decide +kernel)).trans c122
        have c955 : I940 a0 8 = v123 := (g943.cell ta0 (by decide +kernel)).trans c124
        have hO956 : FrO 14 a1 T I0 I940 := hO86.st g943 (by decide +kernel)
        obtain ⟨v957, c958⟩ : ∃ v, I940 a0 9 = v := ⟨_, rfl⟩
        have b959 := iv15_9 hS950.1 ta0 c958
        rw [c958] at p946
        obtain ⟨v960, c961⟩ : ∃ v, I940 a0 13 = v := ⟨_, rfl⟩
        rw [c961] at p947
        obtain ⟨v962, c963⟩ : ∃ v, I940 a0 14 = v := ⟨_, rfl⟩
        rw [c963] at p948
        rw [c115] at p948
        refine sf_oC25 hE hZ hS950.1 (gB) ta0 (by (try rw [c958]); first | done | with_reducible assumption | omega) ⟨_, d2⟩ rfl ?_
        rintro I964 R965 L966 ⟨g967, p968, p969, p970, rp971, -⟩
        obtain rfl : R0 = R965 := funext fun a => funext fun j => (g967.2.2 a j (wm_no rfl)).symm
        have hS972 := hS950.tr g967 (by decide +kernel) (by decide +kernel)
        have c973 : I964 a1 5 = v49 := (g967.cell ta1 (by decide +kernel)).trans c951
        have hO974 : FrO 14 a1 T I0 I964 := hO956.st g967 (by decide +kernel)
        obtain ⟨v975, c976⟩ : ∃ v, I964 a0 9 = v := ⟨_, rfl⟩
        have b977 := iv15_9 hS972.1 ta0 c976
        rw [c976] at p968
        obtain ⟨v978, c979⟩ : ∃ v, I964 a0 13 = v := ⟨_, rfl⟩
        rw [c979] at p969
        rw [c961] at p969
        obtain ⟨v980, c981⟩ : ∃ v, I964 a0 14 = v := ⟨_, rfl⟩
        rw [c981] at p970
        rw [c963] at p970
        have eF := hF.eq
        have eP := hP.eq
        obtain ⟨v982, c983⟩ : ∃ v, I964 a0 10 = v := ⟨_, rfl⟩
        have b984 := iv15_10 hS972.1 ta0 c983
        obtain ⟨v985, c986⟩ : ∃ v, I964 a0 11 = v := ⟨_, rfl⟩
        obtain ⟨y987, c988⟩ : ∃ v, L966 a0 15 = v := ⟨_, rfl⟩
        obtain ⟨v989, c990⟩ : ∃ v, I964 a0 12 = v := ⟨_, rfl⟩
        obtain ⟨v991, c992⟩ : ∃ v, I964 a0 8 = v := ⟨_, rfl⟩
        have b993 := iv15_8 hS972.1 ta0 c992
        exact ⟨rfl, rfl, rfl, rfl, rfl, hS972, (fun b hb => (Option.some.inj (d2.symm.trans hb)) ▸ ((((FrM.rf (R := R0) (b := a1) (T := T)).st g79 (by decide +kernel)).st g943 (by decide +kernel)).st g967 (by decide +kernel))), (fun dr hd => (Option.some.inj (d2.symm.trans hd)) ▸ hO974), (Or.inr (⟨(by first | done | with_reducible assumption | exact om_7fac24c5 eF), (by (try rw [c976]); first | done | with_reducible assumption | omega), (by (try rw [c979]); first | done | with_reducible assumption | exact om_93aef1c0 h939 p947 p969 eF), (by (try rw [c981]); first | done | with_reducible assumption | exact om_3efc13ef p92 p948 p970 eP), trivial⟩)), trivial⟩
  · skip
    obtain ⟨v994, c995⟩ : ∃ v, I76 a0 9 = v := ⟨_, rfl⟩
    have b996 := iv15_9 hS84.1 ta0 c995
    rw [c995] at p99
    obtain ⟨v997, c998⟩ : ∃ v, I76 a0 13 = v := ⟨_, rfl⟩
    rw [c998] at p100
    obtain ⟨v999, c1000⟩ : ∃ v, I76 a0 14 = v := ⟨_, rfl⟩
    rw [c1000] at p101
    have p1001 := p61
    unfold Q7M at p1001
    replace hF := hF.pos (by exact om_a80782b7 pre18 p52 h75 p98)
    replace hP := hP.pos (by exact om_a80782b7 pre18 p52 h75 p98)
    clear p1001
    refine sf_oC13 hE hZ hS84.1 (gB) ta0 (by (try rw [c995]); first | done | with_reducible assumption | omega) ⟨_, d2⟩ rfl ?_
    rintro I1002 R1003 L1004 ⟨g1005, p1006, p1007, p1008, rp1009, -⟩
    obtain rfl : R0 = R1003 := funext fun a => funext fun j => (g1005.2.2 a j (wm_no rfl)).symm
    have hS1010 := hS84.tr g1005 (by decide +kernel) (by decide +kernel)
    have c1011 : I1002 a1 5 = v49 := (g1005.cell ta1 (by decide +kernel)).trans c85
    have hO1012 : FrO 14 a1 T I0 I1002 := hO86.st g1005 (by decide +kernel)
    obtain ⟨v1013, c1014⟩ : ∃ v, I1002 a0 9 = v := ⟨_, rfl⟩
    have b1015 := iv15_9 hS1010.1 ta0 c1014
    rw [c1014] at p1006
    obtain ⟨v1016, c1017⟩ : ∃ v, I1002 a0 13 = v := ⟨_, rfl⟩
    rw [c1017] at p1007
    rw [c998] at p1007
    obtain ⟨v1018, c1019⟩ : ∃ v, I1002 a0 14 = v := ⟨_, rfl⟩
    rw [c1019] at p1008
    rw [c1000] at p1008
    have eF := hF.eq
    have eP := hP.eq
    obtain ⟨v1020, c1021⟩ : ∃ v, I1002 a0 10 = v := ⟨_, rfl⟩
    have b1022 := iv15_10 hS1010.1 ta0 c1021
    obtain ⟨v1023, c1024⟩ : ∃ v, I1002 a0 11 = v := ⟨_, rfl⟩
    obtain ⟨y1025, c1026⟩ : ∃ v, L1004 a0 15 = v := ⟨_, rfl⟩
    obtain ⟨v1027, c1028⟩ : ∃ v, I1002 a0 12 = v := ⟨_, rfl⟩
    obtain ⟨v1029, c1030⟩ : ∃ v, I1002 a0 8 = v := ⟨_, rfl⟩
    have b1031 := iv15_8 hS1010.1 ta0 c1030
    exact ⟨rfl, rfl, rfl, rfl, rfl, hS1010, (fun b hb => (Option.some.inj (d2.symm.trans hb)) ▸ (((FrM.rf (R := R0) (b := a1) (T := T)).st g79 (by decide +kernel)).st g1005 (by decide +kernel))), (fun dr hd => (Option.some.inj (d2.symm.trans hd)) ▸ hO1012), (Or.inr (⟨(by first | done | with_reducible assumption | exact om_64c62efe eF), (by (try rw [c1014]); first | done | with_reducible assumption | omega), (by (try rw [c1017]); first | done | with_reducible assumption | exact om_7fd518bd p100 p1007 eF), (by (try rw [c1019]); first | done | with_reducible assumption | exact om_8e6888af p11 p101 p1008 eP), trivial⟩)), trivial⟩
  · skip
    obtain ⟨v1032, c1033⟩ : ∃ v, I76 a0 9 = v := ⟨_, rfl⟩
    have b1034 := iv15_9 hS84.1 ta0 c1033
    rw [c1033] at p104
    obtain ⟨v1035, c1036⟩ : ∃ v, I76 a0 13 = v := ⟨_, rfl⟩
    rw [c1036] at p105
    obtain ⟨v1037, c1038⟩ : ∃ v, I76 a0 14 = v := ⟨_, rfl⟩
    rw [c1038] at p106
    have p1039 := p61
    unfold Q7M at p1039
    replace hF := hF.neg (by exact om_b31f17f6 pre18 b51.2 b51.1 p52 h75 p102 p103 p1039)
    replace hP := hP.neg (by exact om_b31f17f6 pre18 b51.2 b51.1 p52 h75 p102 p103 p1039)
    replace hF := hF.pos (by exact om_0b06c36a pre18 p103 p1039)
    replace hP := hP.pos (by exact om_0b06c36a pre18 p103 p1039)
    clear p1039
    refine sf_oC13 hE hZ hS84.1 (gB) ta0 (by (try rw [c1033]); first | done | with_reducible assumption | omega) ⟨_, d2⟩ rfl ?_
    rintro I1040 R1041 L1042 ⟨g1043, p1044, p1045, p1046, rp1047, -⟩
    obtain rfl : R0 = R1041 := funext fun a => funext fun j => (g1043.2.2 a j (wm_no rfl)).symm
    have hS1048 := hS84.tr g1043 (by decide +kernel) (by decide +kernel)
    have c1049 : I1040 a1 5 = v49 := (g1043.cell ta1 (by decide +kernel)).trans c85
    have hO1050 : FrO 14 a1 T I0 I1040 := hO86.st g1043 (by decide +kernel)
    obtain ⟨v1051, c1052⟩ : ∃ v, I1040 a0 9 = v := ⟨_, rfl⟩
    have b1053 := iv15_9 hS1048.1 ta0 c1052
    rw [c1052] at p1044
    obtain ⟨v1054, c1055⟩ : ∃ v, I1040 a0 13 = v := ⟨_, rfl⟩
    rw [c1055] at p1045
    rw [c1036] at p1045
    obtain ⟨v1056, c1057⟩ : ∃ v, I1040 a0 14 = v := ⟨_, rfl⟩
    rw [c1057] at p1046
    rw [c1038] at p1046
    have eF := hF.eq
    have eP := hP.eq
    obtain ⟨v1058, c1059⟩ : ∃ v, I1040 a0 10 = v := ⟨_, rfl⟩
    have b1060 := iv15_10 hS1048.1 ta0 c1059
    obtain ⟨v1061, c1062⟩ : ∃ v, I1040 a0 11 = v := ⟨_, rfl⟩
    obtain ⟨y1063, c1064⟩ : ∃ v, L1042 a0 15 = v := ⟨_, rfl⟩
    obtain ⟨v1065, c1066⟩ : ∃ v, I1040 a0 12 = v := ⟨_, rfl⟩
    obtain ⟨v1067, c1068⟩ : ∃ v, I1040 a0 8 = v := ⟨_, rfl⟩
    have b1069 := iv15_8 hS1048.1 ta0 c1068
    exact ⟨rfl, rfl, rfl, rfl, rfl, hS1048, (fun b hb => (Option.some.inj (d2.symm.trans hb)) ▸ (((FrM.rf (R := R0) (b := a1) (T := T)).st g79 (by decide +kernel)).st g1043 (by decide +kernel))), (fun dr hd => (Option.some.inj (d2.symm.trans hd)) ▸ hO1050), (Or.inr (⟨(by first | done | with_reducible assumption | exact om_3a8e1f7c eF), (by (try rw [c1052]); first | done | with_reducible assumption | omega), (by (try rw [c1055]); first | done | with_reducible assumption | exact om_1428d4dd p105 p1045 eF), (by (try rw [c1057]); first | done | with_reducible assumption | exact om_8e6888af p11 p106 p1046 eP), trivial⟩)), trivial⟩
